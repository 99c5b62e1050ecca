/-! ===== BEGIN printed: names, fields, word lists, decode rows ===== -/
def RX0 : String := "SplayOrchard$Apple"
def TX0 : u_T := fun k => match k with
  | 0 => ("SplayOrchard$Apple", "size", "I", true)
  | 1 => ("SplayOrchard$Apple", "standIn", "LSplayOrchard$Apple;", true)
  | 2 => ("SplayOrchard$Apple", "up", "LSplayOrchard$Apple;", false)
  | 3 => ("SplayOrchard$Apple", "left", "LSplayOrchard$Apple;", false)
  | 4 => ("SplayOrchard$Apple", "right", "LSplayOrchard$Apple;", false)
  | _ => ("SplayOrchard$Apple", "bites", "I", false)
def tyX0 : Nat → FieldType := fun k => match k with
  | 0 => .int
  | 1 => .object "SplayOrchard$Apple"
  | 2 => .object "SplayOrchard$Apple"
  | 3 => .object "SplayOrchard$Apple"
  | 4 => .object "SplayOrchard$Apple"
  | _ => .int
abbrev wsX00 : List Cond := u_ws RX0 TX0 6
theorem nmX0 : ∀ a, a < 6 → ∀ b, b < 6 → a ≠ b → (TX0 a).2.1 ≠ (TX0 b).2.1 := by decide +kernel
theorem tyX0_ok : ∀ k, k < 6 → parseFieldDescriptor (TX0 k).2.2.1 = some (tyX0 k) := by decide +kernel
abbrev cX0_init : ByteArray := prog_2_method_1_code
def yX0_init : MethodName := ⟨RX0, "<init>", "(ILSplayOrchard$Apple;)V"⟩
abbrev cX0_hangLeft : ByteArray := prog_2_method_2_code
def yX0_hangLeft : MethodName := ⟨RX0, "hangLeft", "(LSplayOrchard$Apple;)V"⟩
abbrev cX0_hangRight : ByteArray := prog_2_method_3_code
def yX0_hangRight : MethodName := ⟨RX0, "hangRight", "(LSplayOrchard$Apple;)V"⟩
abbrev cX0_isOnTheLeft : ByteArray := prog_2_method_4_code
def yX0_isOnTheLeft : MethodName := ⟨RX0, "isOnTheLeft", "()Z"⟩
abbrev cX0_turn : ByteArray := prog_2_method_5_code
def yX0_turn : MethodName := ⟨RX0, "turn", "()V"⟩
abbrev cX0_depth : ByteArray := prog_2_method_6_code
def yX0_depth : MethodName := ⟨RX0, "depth", "()I"⟩
abbrev cX0_towards : ByteArray := prog_2_method_7_code
def yX0_towards : MethodName := ⟨RX0, "towards", "(I)LSplayOrchard$Apple;"⟩
abbrev cX0_leastUnder : ByteArray := prog_2_method_8_code
def yX0_leastUnder : MethodName := ⟨RX0, "leastUnder", "()LSplayOrchard$Apple;"⟩
abbrev cX0_greatestUnder : ByteArray := prog_2_method_9_code
def yX0_greatestUnder : MethodName := ⟨RX0, "greatestUnder", "()LSplayOrchard$Apple;"⟩
abbrev cX0_next : ByteArray := prog_2_method_10_code
def yX0_next : MethodName := ⟨RX0, "next", "()LSplayOrchard$Apple;"⟩
abbrev cX0_countUnder : ByteArray := prog_2_method_11_code
def yX0_countUnder : MethodName := ⟨RX0, "countUnder", "()I"⟩
abbrev cX0_linkStandIn : ByteArray := prog_2_method_12_code
def yX0_linkStandIn : MethodName := ⟨RX0, "linkStandIn", "()V"⟩
abbrev cX0_standInOf : ByteArray := prog_2_method_13_code
def yX0_standInOf : MethodName := ⟨RX0, "standInOf", "(LSplayOrchard$Apple;)LSplayOrchard$Apple;"⟩
def RX1 : String := "SplayOrchard$Tree"
def TX1 : u_T := fun k => match k with
  | _ => ("SplayOrchard$Tree", "top", "LSplayOrchard$Apple;", false)
def tyX1 : Nat → FieldType := fun k => match k with
  | _ => .object "SplayOrchard$Apple"
abbrev wsX10 : List Cond := u_ws RX1 TX1 1
theorem nmX1 : ∀ a, a < 1 → ∀ b, b < 1 → a ≠ b → (TX1 a).2.1 ≠ (TX1 b).2.1 := by decide +kernel
theorem tyX1_ok : ∀ k, k < 1 → parseFieldDescriptor (TX1 k).2.2.1 = some (tyX1 k) := by decide +kernel
abbrev cX1_init : ByteArray := prog_3_method_1_code
def yX1_init : MethodName := ⟨RX1, "<init>", "()V"⟩
abbrev cX1_setTop : ByteArray := prog_3_method_2_code
def yX1_setTop : MethodName := ⟨RX1, "setTop", "(LSplayOrchard$Apple;)V"⟩
abbrev cX1_first : ByteArray := prog_3_method_3_code
def yX1_first : MethodName := ⟨RX1, "first", "()LSplayOrchard$Apple;"⟩
abbrev cX1_last : ByteArray := prog_3_method_4_code
def yX1_last : MethodName := ⟨RX1, "last", "()LSplayOrchard$Apple;"⟩
abbrev cX1_nearest : ByteArray := prog_3_method_5_code
def yX1_nearest : MethodName := ⟨RX1, "nearest", "(I)LSplayOrchard$Apple;"⟩
abbrev cX1_find : ByteArray := prog_3_method_6_code
def yX1_find : MethodName := ⟨RX1, "find", "(I)LSplayOrchard$Apple;"⟩
abbrev cX1_hang : ByteArray := prog_3_method_7_code
def yX1_hang : MethodName := ⟨RX1, "hang", "(LSplayOrchard$Apple;)V"⟩
abbrev cX1_bringUp : ByteArray := prog_3_method_8_code
def yX1_bringUp : MethodName := ⟨RX1, "bringUp", "(LSplayOrchard$Apple;)I"⟩
abbrev cX1_at : ByteArray := prog_3_method_9_code
def yX1_at : MethodName := ⟨RX1, "at", "(I)LSplayOrchard$Apple;"⟩
abbrev cX1_count : ByteArray := prog_3_method_10_code
def yX1_count : MethodName := ⟨RX1, "count", "()I"⟩
abbrev cX1_countBelow : ByteArray := prog_3_method_11_code
def yX1_countBelow : MethodName := ⟨RX1, "countBelow", "(I)I"⟩
abbrev cX1_greatestBelow : ByteArray := prog_3_method_12_code
def yX1_greatestBelow : MethodName := ⟨RX1, "greatestBelow", "(I)LSplayOrchard$Apple;"⟩
abbrev cX1_levels : ByteArray := prog_3_method_13_code
def yX1_levels : MethodName := ⟨RX1, "levels", "()I"⟩
abbrev cX1_depthSum : ByteArray := prog_3_method_14_code
def yX1_depthSum : MethodName := ⟨RX1, "depthSum", "()I"⟩
abbrev cX1_leafCount : ByteArray := prog_3_method_15_code
def yX1_leafCount : MethodName := ⟨RX1, "leafCount", "()I"⟩
abbrev cX1_mostBitten : ByteArray := prog_3_method_16_code
def yX1_mostBitten : MethodName := ⟨RX1, "mostBitten", "()LSplayOrchard$Apple;"⟩
abbrev cX1_meeting : ByteArray := prog_3_method_17_code
def yX1_meeting : MethodName := ⟨RX1, "meeting", "(LSplayOrchard$Apple;LSplayOrchard$Apple;)LSplayOrchard$Apple;"⟩
abbrev cX1_standInFor : ByteArray := prog_3_method_18_code
def yX1_standInFor : MethodName := ⟨RX1, "standInFor", "(LSplayOrchard$Tree;)V"⟩
def RX2 : String := "SplayOrchard"
def TX2 : u_T := fun k => match k with
  | 0 => ("SplayOrchard", "rows", "[LSplayOrchard$Tree;", true)
  | 1 => ("SplayOrchard", "trial", "LSplayOrchard$Tree;", true)
  | _ => ("SplayOrchard", "turned", "I", false)
def tyX2 : Nat → FieldType := fun k => match k with
  | 0 => .array (.object "SplayOrchard$Tree")
  | 1 => .object "SplayOrchard$Tree"
  | _ => .int
abbrev wsX20 : List Cond := u_ws RX2 TX2 3
theorem nmX2 : ∀ a, a < 3 → ∀ b, b < 3 → a ≠ b → (TX2 a).2.1 ≠ (TX2 b).2.1 := by decide +kernel
theorem tyX2_ok : ∀ k, k < 3 → parseFieldDescriptor (TX2 k).2.2.1 = some (tyX2 k) := by decide +kernel
abbrev cX2_init : ByteArray := prog_1_method_1_code
def yX2_init : MethodName := ⟨RX2, "<init>", "()V"⟩
abbrev cX2_plant : ByteArray := prog_1_method_2_code
def yX2_plant : MethodName := ⟨RX2, "plant", "(II)I"⟩
abbrev cX2_eat : ByteArray := prog_1_method_3_code
def yX2_eat : MethodName := ⟨RX2, "eat", "(II)I"⟩
abbrev cX2_pick : ByteArray := prog_1_method_4_code
def yX2_pick : MethodName := ⟨RX2, "pick", "(II)I"⟩
abbrev cX2_split : ByteArray := prog_1_method_5_code
def yX2_split : MethodName := ⟨RX2, "split", "(III)I"⟩
abbrev cX2_join : ByteArray := prog_1_method_6_code
def yX2_join : MethodName := ⟨RX2, "join", "(II)I"⟩
abbrev cX2_apples : ByteArray := prog_1_method_7_code
def yX2_apples : MethodName := ⟨RX2, "apples", "()I"⟩
abbrev cX2_turnings : ByteArray := prog_1_method_8_code
def yX2_turnings : MethodName := ⟨RX2, "turnings", "()I"⟩
abbrev cX2_sizeOf : ByteArray := prog_1_method_9_code
def yX2_sizeOf : MethodName := ⟨RX2, "sizeOf", "(I)I"⟩
abbrev cX2_top : ByteArray := prog_1_method_10_code
def yX2_top : MethodName := ⟨RX2, "top", "(I)I"⟩
abbrev cX2_height : ByteArray := prog_1_method_11_code
def yX2_height : MethodName := ⟨RX2, "height", "(I)I"⟩
abbrev cX2_leastHeight : ByteArray := prog_1_method_12_code
def yX2_leastHeight : MethodName := ⟨RX2, "leastHeight", "(I)I"⟩
abbrev cX2_depths : ByteArray := prog_1_method_13_code
def yX2_depths : MethodName := ⟨RX2, "depths", "(I)I"⟩
abbrev cX2_smallest : ByteArray := prog_1_method_14_code
def yX2_smallest : MethodName := ⟨RX2, "smallest", "(I)I"⟩
abbrev cX2_greatest : ByteArray := prog_1_method_15_code
def yX2_greatest : MethodName := ⟨RX2, "greatest", "(I)I"⟩
abbrev cX2_inOrder : ByteArray := prog_1_method_16_code
def yX2_inOrder : MethodName := ⟨RX2, "inOrder", "(II)I"⟩
abbrev cX2_leaves : ByteArray := prog_1_method_17_code
def yX2_leaves : MethodName := ⟨RX2, "leaves", "(I)I"⟩
abbrev cX2_has : ByteArray := prog_1_method_18_code
def yX2_has : MethodName := ⟨RX2, "has", "(II)Z"⟩
abbrev cX2_smaller : ByteArray := prog_1_method_19_code
def yX2_smaller : MethodName := ⟨RX2, "smaller", "(II)I"⟩
abbrev cX2_depthOf : ByteArray := prog_1_method_20_code
def yX2_depthOf : MethodName := ⟨RX2, "depthOf", "(II)I"⟩
abbrev cX2_above : ByteArray := prog_1_method_21_code
def yX2_above : MethodName := ⟨RX2, "above", "(II)I"⟩
abbrev cX2_leftOf : ByteArray := prog_1_method_22_code
def yX2_leftOf : MethodName := ⟨RX2, "leftOf", "(II)I"⟩
abbrev cX2_rightOf : ByteArray := prog_1_method_23_code
def yX2_rightOf : MethodName := ⟨RX2, "rightOf", "(II)I"⟩
abbrev cX2_below : ByteArray := prog_1_method_24_code
def yX2_below : MethodName := ⟨RX2, "below", "(II)I"⟩
abbrev cX2_eaten : ByteArray := prog_1_method_25_code
def yX2_eaten : MethodName := ⟨RX2, "eaten", "(II)I"⟩
abbrev cX2_favourite : ByteArray := prog_1_method_26_code
def yX2_favourite : MethodName := ⟨RX2, "favourite", "(I)I"⟩
abbrev cX2_meet : ByteArray := prog_1_method_27_code
def yX2_meet : MethodName := ⟨RX2, "meet", "(III)I"⟩
abbrev cX2_depthBehind : ByteArray := prog_1_method_28_code
def yX2_depthBehind : MethodName := ⟨RX2, "depthBehind", "(III)I"⟩
abbrev cX2_heightBehind : ByteArray := prog_1_method_29_code
def yX2_heightBehind : MethodName := ⟨RX2, "heightBehind", "(II)I"⟩
abbrev cX2_bestToEat : ByteArray := prog_1_method_30_code
def yX2_bestToEat : MethodName := ⟨RX2, "bestToEat", "(I)I"⟩
abbrev cX2_plantDepth : ByteArray := prog_1_method_31_code
def yX2_plantDepth : MethodName := ⟨RX2, "plantDepth", "(II)I"⟩
abbrev cX2_canJoin : ByteArray := prog_1_method_32_code
def yX2_canJoin : MethodName := ⟨RX2, "canJoin", "(II)Z"⟩
abbrev cX2_meanDepth : ByteArray := prog_1_method_33_code
def yX2_meanDepth : MethodName := ⟨RX2, "meanDepth", "(I)D"⟩
abbrev cX2_digest : ByteArray := prog_1_method_34_code
def yX2_digest : MethodName := ⟨RX2, "digest", "()J"⟩
abbrev cX2_mixRow : ByteArray := prog_1_method_35_code
def yX2_mixRow : MethodName := ⟨RX2, "mixRow", "(JI)J"⟩
abbrev cX2_mixApple : ByteArray := prog_1_method_36_code
def yX2_mixApple : MethodName := ⟨RX2, "mixApple", "(JLSplayOrchard$Apple;)J"⟩
abbrev cX2_mix : ByteArray := prog_1_method_37_code
def yX2_mix : MethodName := ⟨RX2, "mix", "(JI)J"⟩
abbrev cX2_treeOf : ByteArray := prog_1_method_38_code
def yX2_treeOf : MethodName := ⟨RX2, "treeOf", "(I)LSplayOrchard$Tree;"⟩
abbrev cX2_checkSize : ByteArray := prog_1_method_39_code
def yX2_checkSize : MethodName := ⟨RX2, "checkSize", "(I)V"⟩
abbrev cX2_appleOf : ByteArray := prog_1_method_40_code
def yX2_appleOf : MethodName := ⟨RX2, "appleOf", "(LSplayOrchard$Tree;I)LSplayOrchard$Apple;"⟩
abbrev cX2_sizeOrNone : ByteArray := prog_1_method_41_code
def yX2_sizeOrNone : MethodName := ⟨RX2, "sizeOrNone", "(LSplayOrchard$Apple;)I"⟩
abbrev cX2_mayJoin : ByteArray := prog_1_method_42_code
def yX2_mayJoin : MethodName := ⟨RX2, "mayJoin", "(LSplayOrchard$Tree;LSplayOrchard$Tree;)Z"⟩
abbrev cX2_bringUp : ByteArray := prog_1_method_43_code
def yX2_bringUp : MethodName := ⟨RX2, "bringUp", "(LSplayOrchard$Tree;LSplayOrchard$Apple;)I"⟩
abbrev cX2_append : ByteArray := prog_1_method_44_code
def yX2_append : MethodName := ⟨RX2, "append", "(LSplayOrchard$Tree;LSplayOrchard$Apple;)V"⟩
abbrev cX2_tryEating : ByteArray := prog_1_method_45_code
def yX2_tryEating : MethodName := ⟨RX2, "tryEating", "(LSplayOrchard$Tree;LSplayOrchard$Apple;)V"⟩
def RX3 : String := "SplayOrchardModel"
def TX3 : u_T := fun k => match k with
  | 0 => ("SplayOrchardModel", "thrown", "I", false)
  | 1 => ("SplayOrchardModel", "many", "I", false)
  | 2 => ("SplayOrchardModel", "turned", "I", false)
  | 3 => ("SplayOrchardModel", "now", "[I", true)
  | 4 => ("SplayOrchardModel", "kept", "[I", true)
  | _ => ("SplayOrchardModel", "keptTurned", "I", false)
def tyX3 : Nat → FieldType := fun k => match k with
  | 0 => .int
  | 1 => .int
  | 2 => .int
  | 3 => .array .int
  | 4 => .array .int
  | _ => .int
abbrev wsX30 : List Cond := u_ws RX3 TX3 6
theorem nmX3 : ∀ a, a < 6 → ∀ b, b < 6 → a ≠ b → (TX3 a).2.1 ≠ (TX3 b).2.1 := by decide +kernel
theorem tyX3_ok : ∀ k, k < 6 → parseFieldDescriptor (TX3 k).2.2.1 = some (tyX3 k) := by decide +kernel
abbrev cX3_init : ByteArray := prog_5_method_1_code
def yX3_init : MethodName := ⟨RX3, "<init>", "()V"⟩
abbrev cX3_thrown : ByteArray := prog_5_method_2_code
def yX3_thrown : MethodName := ⟨RX3, "thrown", "()I"⟩
abbrev cX3_no : ByteArray := prog_5_method_3_code
def yX3_no : MethodName := ⟨RX3, "no", "(I)I"⟩
abbrev cX3_isNot : ByteArray := prog_5_method_4_code
def yX3_isNot : MethodName := ⟨RX3, "isNot", "(I)Z"⟩
abbrev cX3_ok : ByteArray := prog_5_method_5_code
def yX3_ok : MethodName := ⟨RX3, "ok", "(I)I"⟩
abbrev cX3_isRow : ByteArray := prog_5_method_6_code
def yX3_isRow : MethodName := ⟨RX3, "isRow", "(I)Z"⟩
abbrev cX3_isSize : ByteArray := prog_5_method_7_code
def yX3_isSize : MethodName := ⟨RX3, "isSize", "(I)Z"⟩
abbrev cX3_keep : ByteArray := prog_5_method_8_code
def yX3_keep : MethodName := ⟨RX3, "keep", "()V"⟩
abbrev cX3_bringBack : ByteArray := prog_5_method_9_code
def yX3_bringBack : MethodName := ⟨RX3, "bringBack", "()V"⟩
abbrev cX3_find : ByteArray := prog_5_method_10_code
def yX3_find : MethodName := ⟨RX3, "find", "(II)I"⟩
abbrev cX3_deep : ByteArray := prog_5_method_11_code
def yX3_deep : MethodName := ⟨RX3, "deep", "(I)I"⟩
abbrev cX3_free : ByteArray := prog_5_method_12_code
def yX3_free : MethodName := ⟨RX3, "free", "()I"⟩
abbrev cX3_end : ByteArray := prog_5_method_13_code
def yX3_end : MethodName := ⟨RX3, "end", "(II)I"⟩
abbrev cX3_hang : ByteArray := prog_5_method_14_code
def yX3_hang : MethodName := ⟨RX3, "hang", "(III)V"⟩
abbrev cX3_sideOf : ByteArray := prog_5_method_15_code
def yX3_sideOf : MethodName := ⟨RX3, "sideOf", "(I)I"⟩
abbrev cX3_across : ByteArray := prog_5_method_16_code
def yX3_across : MethodName := ⟨RX3, "across", "(I)I"⟩
abbrev cX3_turn : ByteArray := prog_5_method_17_code
def yX3_turn : MethodName := ⟨RX3, "turn", "(I)V"⟩
abbrev cX3_raise : ByteArray := prog_5_method_18_code
def yX3_raise : MethodName := ⟨RX3, "raise", "(I)V"⟩
abbrev cX3_raiseIn : ByteArray := prog_5_method_19_code
def yX3_raiseIn : MethodName := ⟨RX3, "raiseIn", "(II)V"⟩
abbrev cX3_count : ByteArray := prog_5_method_20_code
def yX3_count : MethodName := ⟨RX3, "count", "(I)I"⟩
abbrev cX3_high : ByteArray := prog_5_method_21_code
def yX3_high : MethodName := ⟨RX3, "high", "(I)I"⟩
abbrev cX3_depthsOf : ByteArray := prog_5_method_22_code
def yX3_depthsOf : MethodName := ⟨RX3, "depthsOf", "(II)I"⟩
abbrev cX3_ends : ByteArray := prog_5_method_23_code
def yX3_ends : MethodName := ⟨RX3, "ends", "(I)I"⟩
abbrev cX3_under : ByteArray := prog_5_method_24_code
def yX3_under : MethodName := ⟨RX3, "under", "(II)I"⟩
abbrev cX3_nth : ByteArray := prog_5_method_25_code
def yX3_nth : MethodName := ⟨RX3, "nth", "(II)I"⟩
abbrev cX3_sizeAt : ByteArray := prog_5_method_26_code
def yX3_sizeAt : MethodName := ⟨RX3, "sizeAt", "(I)I"⟩
abbrev cX3_plantDeep : ByteArray := prog_5_method_27_code
def yX3_plantDeep : MethodName := ⟨RX3, "plantDeep", "(II)I"⟩
abbrev cX3_planted : ByteArray := prog_5_method_28_code
def yX3_planted : MethodName := ⟨RX3, "planted", "(II)I"⟩
abbrev cX3_plant : ByteArray := prog_5_method_29_code
def yX3_plant : MethodName := ⟨RX3, "plant", "(II)I"⟩
abbrev cX3_bitten : ByteArray := prog_5_method_30_code
def yX3_bitten : MethodName := ⟨RX3, "bitten", "(II)I"⟩
abbrev cX3_eat : ByteArray := prog_5_method_31_code
def yX3_eat : MethodName := ⟨RX3, "eat", "(II)I"⟩
abbrev cX3_lowered : ByteArray := prog_5_method_32_code
def yX3_lowered : MethodName := ⟨RX3, "lowered", "(I)I"⟩
abbrev cX3_together : ByteArray := prog_5_method_33_code
def yX3_together : MethodName := ⟨RX3, "together", "(II)I"⟩
abbrev cX3_picked : ByteArray := prog_5_method_34_code
def yX3_picked : MethodName := ⟨RX3, "picked", "(II)I"⟩
abbrev cX3_pick : ByteArray := prog_5_method_35_code
def yX3_pick : MethodName := ⟨RX3, "pick", "(II)I"⟩
abbrev cX3_parted : ByteArray := prog_5_method_36_code
def yX3_parted : MethodName := ⟨RX3, "parted", "(III)I"⟩
abbrev cX3_split : ByteArray := prog_5_method_37_code
def yX3_split : MethodName := ⟨RX3, "split", "(III)I"⟩
abbrev cX3_fits : ByteArray := prog_5_method_38_code
def yX3_fits : MethodName := ⟨RX3, "fits", "(II)Z"⟩
abbrev cX3_join : ByteArray := prog_5_method_39_code
def yX3_join : MethodName := ⟨RX3, "join", "(II)I"⟩
abbrev cX3_apples : ByteArray := prog_5_method_40_code
def yX3_apples : MethodName := ⟨RX3, "apples", "()I"⟩
abbrev cX3_turnings : ByteArray := prog_5_method_41_code
def yX3_turnings : MethodName := ⟨RX3, "turnings", "()I"⟩
abbrev cX3_sizeOf : ByteArray := prog_5_method_42_code
def yX3_sizeOf : MethodName := ⟨RX3, "sizeOf", "(I)I"⟩
abbrev cX3_top : ByteArray := prog_5_method_43_code
def yX3_top : MethodName := ⟨RX3, "top", "(I)I"⟩
abbrev cX3_height : ByteArray := prog_5_method_44_code
def yX3_height : MethodName := ⟨RX3, "height", "(I)I"⟩
abbrev cX3_lowest : ByteArray := prog_5_method_45_code
def yX3_lowest : MethodName := ⟨RX3, "lowest", "(I)I"⟩
abbrev cX3_leastHeight : ByteArray := prog_5_method_46_code
def yX3_leastHeight : MethodName := ⟨RX3, "leastHeight", "(I)I"⟩
abbrev cX3_depths : ByteArray := prog_5_method_47_code
def yX3_depths : MethodName := ⟨RX3, "depths", "(I)I"⟩
abbrev cX3_smallest : ByteArray := prog_5_method_48_code
def yX3_smallest : MethodName := ⟨RX3, "smallest", "(I)I"⟩
abbrev cX3_greatest : ByteArray := prog_5_method_49_code
def yX3_greatest : MethodName := ⟨RX3, "greatest", "(I)I"⟩
abbrev cX3_inOrder : ByteArray := prog_5_method_50_code
def yX3_inOrder : MethodName := ⟨RX3, "inOrder", "(II)I"⟩
abbrev cX3_leaves : ByteArray := prog_5_method_51_code
def yX3_leaves : MethodName := ⟨RX3, "leaves", "(I)I"⟩
abbrev cX3_has : ByteArray := prog_5_method_52_code
def yX3_has : MethodName := ⟨RX3, "has", "(II)Z"⟩
abbrev cX3_smaller : ByteArray := prog_5_method_53_code
def yX3_smaller : MethodName := ⟨RX3, "smaller", "(II)I"⟩
abbrev cX3_asked : ByteArray := prog_5_method_54_code
def yX3_asked : MethodName := ⟨RX3, "asked", "(II)I"⟩
abbrev cX3_depthOf : ByteArray := prog_5_method_55_code
def yX3_depthOf : MethodName := ⟨RX3, "depthOf", "(II)I"⟩
abbrev cX3_above : ByteArray := prog_5_method_56_code
def yX3_above : MethodName := ⟨RX3, "above", "(II)I"⟩
abbrev cX3_leftOf : ByteArray := prog_5_method_57_code
def yX3_leftOf : MethodName := ⟨RX3, "leftOf", "(II)I"⟩
abbrev cX3_rightOf : ByteArray := prog_5_method_58_code
def yX3_rightOf : MethodName := ⟨RX3, "rightOf", "(II)I"⟩
abbrev cX3_below : ByteArray := prog_5_method_59_code
def yX3_below : MethodName := ⟨RX3, "below", "(II)I"⟩
abbrev cX3_eaten : ByteArray := prog_5_method_60_code
def yX3_eaten : MethodName := ⟨RX3, "eaten", "(II)I"⟩
abbrev cX3_liked : ByteArray := prog_5_method_61_code
def yX3_liked : MethodName := ⟨RX3, "liked", "(I)I"⟩
abbrev cX3_favourite : ByteArray := prog_5_method_62_code
def yX3_favourite : MethodName := ⟨RX3, "favourite", "(I)I"⟩
abbrev cX3_meet : ByteArray := prog_5_method_63_code
def yX3_meet : MethodName := ⟨RX3, "meet", "(III)I"⟩
abbrev cX3_depthBehind : ByteArray := prog_5_method_64_code
def yX3_depthBehind : MethodName := ⟨RX3, "depthBehind", "(III)I"⟩
abbrev cX3_heightBehind : ByteArray := prog_5_method_65_code
def yX3_heightBehind : MethodName := ⟨RX3, "heightBehind", "(II)I"⟩
abbrev cX3_best : ByteArray := prog_5_method_66_code
def yX3_best : MethodName := ⟨RX3, "best", "(I)I"⟩
abbrev cX3_bestToEat : ByteArray := prog_5_method_67_code
def yX3_bestToEat : MethodName := ⟨RX3, "bestToEat", "(I)I"⟩
abbrev cX3_plantDepth : ByteArray := prog_5_method_68_code
def yX3_plantDepth : MethodName := ⟨RX3, "plantDepth", "(II)I"⟩
abbrev cX3_canJoin : ByteArray := prog_5_method_69_code
def yX3_canJoin : MethodName := ⟨RX3, "canJoin", "(II)Z"⟩
abbrev cX3_meanDepth : ByteArray := prog_5_method_70_code
def yX3_meanDepth : MethodName := ⟨RX3, "meanDepth", "(I)D"⟩
abbrev cX3_digest : ByteArray := prog_5_method_71_code
def yX3_digest : MethodName := ⟨RX3, "digest", "()J"⟩
def RJ9 : String := "java/lang/Math"
def TJ9 : u_T := fun k => match k with
  | _ => ("", "", "", false)
def tyJ9 : Nat → FieldType := fun k => match k with
  | _ => .int
abbrev wsJ90 : List Cond := u_ws RJ9 TJ9 0
theorem nmJ9 : ∀ a, a < 0 → ∀ b, b < 0 → a ≠ b → (TJ9 a).2.1 ≠ (TJ9 b).2.1 := by decide +kernel
theorem tyJ9_ok : ∀ k, k < 0 → parseFieldDescriptor (TJ9 k).2.2.1 = some (tyJ9 k) := by decide +kernel
abbrev cJ9_max_7cf53 : ByteArray := prog_10_method_65_code
def yJ9_max_7cf53 : MethodName := ⟨RJ9, "max", "(II)I"⟩
abbrev cJ9_min_7cf53 : ByteArray := prog_10_method_69_code
def yJ9_min_7cf53 : MethodName := ⟨RJ9, "min", "(II)I"⟩
def RJ0 : String := "java/lang/String"
def TJ0 : u_T := fun k => match k with
  | _ => ("", "", "", false)
def tyJ0 : Nat → FieldType := fun k => match k with
  | _ => .int
abbrev wsJ00 : List Cond := u_ws RJ0 TJ0 0
theorem nmJ0 : ∀ a, a < 0 → ∀ b, b < 0 → a ≠ b → (TJ0 a).2.1 ≠ (TJ0 b).2.1 := by decide +kernel
theorem tyJ0_ok : ∀ k, k < 0 → parseFieldDescriptor (TJ0 k).2.2.1 = some (tyJ0 k) := by decide +kernel
def RJ10 : String := "java/lang/System"
def TJ10 : u_T := fun k => match k with
  | _ => ("", "", "", false)
def tyJ10 : Nat → FieldType := fun k => match k with
  | _ => .int
abbrev wsJ100 : List Cond := u_ws RJ10 TJ10 0
theorem nmJ10 : ∀ a, a < 0 → ∀ b, b < 0 → a ≠ b → (TJ10 a).2.1 ≠ (TJ10 b).2.1 := by decide +kernel
theorem tyJ10_ok : ∀ k, k < 0 → parseFieldDescriptor (TJ10 k).2.2.1 = some (tyJ10 k) := by decide +kernel
def RL : String := "SplayOrchardLaw"
abbrev cL_plant : ByteArray := method_3_code
def yL_plant : MethodName := ⟨RL, "plant", "(LSplayOrchard;II[J)I"⟩
abbrev cL_eat : ByteArray := method_4_code
def yL_eat : MethodName := ⟨RL, "eat", "(LSplayOrchard;II[J)I"⟩
abbrev cL_pick : ByteArray := method_5_code
def yL_pick : MethodName := ⟨RL, "pick", "(LSplayOrchard;II[J)I"⟩
abbrev cL_split : ByteArray := method_6_code
def yL_split : MethodName := ⟨RL, "split", "(LSplayOrchard;III[J)I"⟩
abbrev cL_join : ByteArray := method_7_code
def yL_join : MethodName := ⟨RL, "join", "(LSplayOrchard;II[J)I"⟩
abbrev cL_sizeOf : ByteArray := method_8_code
def yL_sizeOf : MethodName := ⟨RL, "sizeOf", "(LSplayOrchard;I[J)I"⟩
abbrev cL_top : ByteArray := method_9_code
def yL_top : MethodName := ⟨RL, "top", "(LSplayOrchard;I[J)I"⟩
abbrev cL_height : ByteArray := method_10_code
def yL_height : MethodName := ⟨RL, "height", "(LSplayOrchard;I[J)I"⟩
abbrev cL_leastHeight : ByteArray := method_11_code
def yL_leastHeight : MethodName := ⟨RL, "leastHeight", "(LSplayOrchard;I[J)I"⟩
abbrev cL_depths : ByteArray := method_12_code
def yL_depths : MethodName := ⟨RL, "depths", "(LSplayOrchard;I[J)I"⟩
abbrev cL_smallest : ByteArray := method_13_code
def yL_smallest : MethodName := ⟨RL, "smallest", "(LSplayOrchard;I[J)I"⟩
abbrev cL_greatest : ByteArray := method_14_code
def yL_greatest : MethodName := ⟨RL, "greatest", "(LSplayOrchard;I[J)I"⟩
abbrev cL_inOrder : ByteArray := method_15_code
def yL_inOrder : MethodName := ⟨RL, "inOrder", "(LSplayOrchard;II[J)I"⟩
abbrev cL_leaves : ByteArray := method_16_code
def yL_leaves : MethodName := ⟨RL, "leaves", "(LSplayOrchard;I[J)I"⟩
abbrev cL_has : ByteArray := method_17_code
def yL_has : MethodName := ⟨RL, "has", "(LSplayOrchard;II[J)I"⟩
abbrev cL_smaller : ByteArray := method_18_code
def yL_smaller : MethodName := ⟨RL, "smaller", "(LSplayOrchard;II[J)I"⟩
abbrev cL_depthOf : ByteArray := method_19_code
def yL_depthOf : MethodName := ⟨RL, "depthOf", "(LSplayOrchard;II[J)I"⟩
abbrev cL_above : ByteArray := method_20_code
def yL_above : MethodName := ⟨RL, "above", "(LSplayOrchard;II[J)I"⟩
abbrev cL_leftOf : ByteArray := method_21_code
def yL_leftOf : MethodName := ⟨RL, "leftOf", "(LSplayOrchard;II[J)I"⟩
abbrev cL_rightOf : ByteArray := method_22_code
def yL_rightOf : MethodName := ⟨RL, "rightOf", "(LSplayOrchard;II[J)I"⟩
abbrev cL_below : ByteArray := method_23_code
def yL_below : MethodName := ⟨RL, "below", "(LSplayOrchard;II[J)I"⟩
abbrev cL_eaten : ByteArray := method_24_code
def yL_eaten : MethodName := ⟨RL, "eaten", "(LSplayOrchard;II[J)I"⟩
abbrev cL_favourite : ByteArray := method_25_code
def yL_favourite : MethodName := ⟨RL, "favourite", "(LSplayOrchard;I[J)I"⟩
abbrev cL_meet : ByteArray := method_26_code
def yL_meet : MethodName := ⟨RL, "meet", "(LSplayOrchard;III[J)I"⟩
abbrev cL_depthBehind : ByteArray := method_27_code
def yL_depthBehind : MethodName := ⟨RL, "depthBehind", "(LSplayOrchard;III[J)I"⟩
abbrev cL_heightBehind : ByteArray := method_28_code
def yL_heightBehind : MethodName := ⟨RL, "heightBehind", "(LSplayOrchard;II[J)I"⟩
abbrev cL_bestToEat : ByteArray := method_29_code
def yL_bestToEat : MethodName := ⟨RL, "bestToEat", "(LSplayOrchard;I[J)I"⟩
abbrev cL_plantDepth : ByteArray := method_30_code
def yL_plantDepth : MethodName := ⟨RL, "plantDepth", "(LSplayOrchard;II[J)I"⟩
abbrev cL_canJoin : ByteArray := method_31_code
def yL_canJoin : MethodName := ⟨RL, "canJoin", "(LSplayOrchard;II[J)I"⟩
abbrev cL_meanDepth : ByteArray := method_32_code
def yL_meanDepth : MethodName := ⟨RL, "meanDepth", "(LSplayOrchard;I[D)I"⟩
abbrev cL_law : ByteArray := code
def yL_law : MethodName := ⟨RL, "law", "([I)Z"⟩
def wsX0_init : List Cond := .code yX0_init cX0_init 3 none :: ([.methodLink RX0 1 objectInit, .instanceMethod objectInit, .code objectInit ⟨#[0xb1]⟩ 1 none, .fieldLink RX0 7 "SplayOrchard$Apple" "size" "I", .fieldLink RX0 13 "SplayOrchard$Apple" "standIn" "LSplayOrchard$Apple;"] ++ wsX00)
def wsX0_hangLeft : List Cond := .code yX0_hangLeft cX0_hangLeft 2 none :: ([.fieldLink RX0 17 "SplayOrchard$Apple" "left" "LSplayOrchard$Apple;", .fieldLink RX0 20 "SplayOrchard$Apple" "up" "LSplayOrchard$Apple;"] ++ wsX00)
def wsX0_hangRight : List Cond := .code yX0_hangRight cX0_hangRight 2 none :: ([.fieldLink RX0 23 "SplayOrchard$Apple" "right" "LSplayOrchard$Apple;", .fieldLink RX0 20 "SplayOrchard$Apple" "up" "LSplayOrchard$Apple;"] ++ wsX00)
def wsX0_isOnTheLeft : List Cond := .code yX0_isOnTheLeft cX0_isOnTheLeft 1 (some .boolean) :: ([.fieldLink RX0 20 "SplayOrchard$Apple" "up" "LSplayOrchard$Apple;", .fieldLink RX0 17 "SplayOrchard$Apple" "left" "LSplayOrchard$Apple;"] ++ wsX00)
def wsX0_turn : List Cond := .code yX0_turn cX0_turn 4 none :: ([.fieldLink RX0 20 "SplayOrchard$Apple" "up" "LSplayOrchard$Apple;", .fieldLink RX0 23 "SplayOrchard$Apple" "right" "LSplayOrchard$Apple;", .fieldLink RX0 17 "SplayOrchard$Apple" "left" "LSplayOrchard$Apple;", .methodLink RX0 26 yX0_isOnTheLeft, .instanceMethod yX0_isOnTheLeft, .selects RX0 yX0_isOnTheLeft yX0_isOnTheLeft, .initialized RX0, .code yX0_isOnTheLeft cX0_isOnTheLeft 1 (some .boolean), .methodLink RX0 30 yX0_hangLeft, .instanceMethod yX0_hangLeft, .selects RX0 yX0_hangLeft yX0_hangLeft, .code yX0_hangLeft cX0_hangLeft 2 none, .methodLink RX0 34 yX0_hangRight, .instanceMethod yX0_hangRight, .selects RX0 yX0_hangRight yX0_hangRight, .code yX0_hangRight cX0_hangRight 2 none] ++ wsX00)
def wsX0_depth : List Cond := .code yX0_depth cX0_depth 3 (some .int) :: ([.fieldLink RX0 20 "SplayOrchard$Apple" "up" "LSplayOrchard$Apple;"] ++ wsX00)
def wsX0_towards : List Cond := .code yX0_towards cX0_towards 2 (some (.object "SplayOrchard$Apple")) :: ([.fieldLink RX0 7 "SplayOrchard$Apple" "size" "I", .fieldLink RX0 17 "SplayOrchard$Apple" "left" "LSplayOrchard$Apple;", .fieldLink RX0 23 "SplayOrchard$Apple" "right" "LSplayOrchard$Apple;"] ++ wsX00)
def wsX0_leastUnder : List Cond := .code yX0_leastUnder cX0_leastUnder 2 (some (.object "SplayOrchard$Apple")) :: ([.fieldLink RX0 17 "SplayOrchard$Apple" "left" "LSplayOrchard$Apple;"] ++ wsX00)
def wsX0_greatestUnder : List Cond := .code yX0_greatestUnder cX0_greatestUnder 2 (some (.object "SplayOrchard$Apple")) :: ([.fieldLink RX0 23 "SplayOrchard$Apple" "right" "LSplayOrchard$Apple;"] ++ wsX00)
def wsX0_next : List Cond := .code yX0_next cX0_next 2 (some (.object "SplayOrchard$Apple")) :: ([.fieldLink RX0 23 "SplayOrchard$Apple" "right" "LSplayOrchard$Apple;", .fieldLink RX0 20 "SplayOrchard$Apple" "up" "LSplayOrchard$Apple;", .methodLink RX0 37 yX0_leastUnder, .instanceMethod yX0_leastUnder, .selects RX0 yX0_leastUnder yX0_leastUnder, .initialized RX0, .code yX0_leastUnder cX0_leastUnder 2 (some (.object "SplayOrchard$Apple")), .fieldLink RX0 17 "SplayOrchard$Apple" "left" "LSplayOrchard$Apple;"] ++ wsX00)
def wsX0_countUnder : List Cond := .code yX0_countUnder cX0_countUnder 4 (some .int) :: ([.methodLink RX0 41 yX0_greatestUnder, .instanceMethod yX0_greatestUnder, .selects RX0 yX0_greatestUnder yX0_greatestUnder, .initialized RX0, .code yX0_greatestUnder cX0_greatestUnder 2 (some (.object "SplayOrchard$Apple")), .fieldLink RX0 23 "SplayOrchard$Apple" "right" "LSplayOrchard$Apple;", .methodLink RX0 37 yX0_leastUnder, .instanceMethod yX0_leastUnder, .selects RX0 yX0_leastUnder yX0_leastUnder, .code yX0_leastUnder cX0_leastUnder 2 (some (.object "SplayOrchard$Apple")), .fieldLink RX0 17 "SplayOrchard$Apple" "left" "LSplayOrchard$Apple;", .methodLink RX0 44 yX0_next, .instanceMethod yX0_next, .selects RX0 yX0_next yX0_next, .code yX0_next cX0_next 2 (some (.object "SplayOrchard$Apple")), .fieldLink RX0 20 "SplayOrchard$Apple" "up" "LSplayOrchard$Apple;"] ++ wsX00)
def wsX0_standInOf : List Cond := .code yX0_standInOf cX0_standInOf 1 (some (.object "SplayOrchard$Apple")) :: ([.fieldLink RX0 13 "SplayOrchard$Apple" "standIn" "LSplayOrchard$Apple;"] ++ wsX00)
def wsX0_linkStandIn : List Cond := .code yX0_linkStandIn cX0_linkStandIn 1 none :: ([.fieldLink RX0 13 "SplayOrchard$Apple" "standIn" "LSplayOrchard$Apple;", .fieldLink RX0 20 "SplayOrchard$Apple" "up" "LSplayOrchard$Apple;", .fieldLink RX0 17 "SplayOrchard$Apple" "left" "LSplayOrchard$Apple;", .fieldLink RX0 23 "SplayOrchard$Apple" "right" "LSplayOrchard$Apple;", .methodLink RX0 47 yX0_standInOf, .static yX0_standInOf, .initialized RX0, .code yX0_standInOf cX0_standInOf 1 (some (.object "SplayOrchard$Apple"))] ++ wsX00)
def wsX1_init : List Cond := .code yX1_init cX1_init 1 none :: ([.methodLink RX1 1 objectInit, .instanceMethod objectInit, .code objectInit ⟨#[0xb1]⟩ 1 none])
def wsX1_setTop : List Cond := .code yX1_setTop cX1_setTop 2 none :: ([.fieldLink RX1 7 "SplayOrchard$Tree" "top" "LSplayOrchard$Apple;", .fieldLink RX1 13 "SplayOrchard$Apple" "up" "LSplayOrchard$Apple;"] ++ wsX10 ++ wsX00)
def wsX1_first : List Cond := .code yX1_first cX1_first 1 (some (.object "SplayOrchard$Apple")) :: ([.fieldLink RX1 7 "SplayOrchard$Tree" "top" "LSplayOrchard$Apple;", .methodLink RX1 18 yX0_leastUnder, .instanceMethod yX0_leastUnder, .selects RX0 yX0_leastUnder yX0_leastUnder, .initialized RX0, .code yX0_leastUnder cX0_leastUnder 2 (some (.object "SplayOrchard$Apple")), .fieldLink RX0 17 "SplayOrchard$Apple" "left" "LSplayOrchard$Apple;"] ++ wsX10 ++ wsX00)
def wsX1_last : List Cond := .code yX1_last cX1_last 1 (some (.object "SplayOrchard$Apple")) :: ([.fieldLink RX1 7 "SplayOrchard$Tree" "top" "LSplayOrchard$Apple;", .methodLink RX1 22 yX0_greatestUnder, .instanceMethod yX0_greatestUnder, .selects RX0 yX0_greatestUnder yX0_greatestUnder, .initialized RX0, .code yX0_greatestUnder cX0_greatestUnder 2 (some (.object "SplayOrchard$Apple")), .fieldLink RX0 23 "SplayOrchard$Apple" "right" "LSplayOrchard$Apple;"] ++ wsX10 ++ wsX00)
def wsX1_nearest : List Cond := .code yX1_nearest cX1_nearest 4 (some (.object "SplayOrchard$Apple")) :: ([.fieldLink RX1 7 "SplayOrchard$Tree" "top" "LSplayOrchard$Apple;", .methodLink RX1 25 yX0_towards, .instanceMethod yX0_towards, .selects RX0 yX0_towards yX0_towards, .initialized RX0, .code yX0_towards cX0_towards 2 (some (.object "SplayOrchard$Apple")), .fieldLink RX0 7 "SplayOrchard$Apple" "size" "I", .fieldLink RX0 17 "SplayOrchard$Apple" "left" "LSplayOrchard$Apple;", .fieldLink RX0 23 "SplayOrchard$Apple" "right" "LSplayOrchard$Apple;"] ++ wsX10 ++ wsX00)
def wsX1_find : List Cond := .code yX1_find cX1_find 3 (some (.object "SplayOrchard$Apple")) :: ([.fieldLink RX1 32 "SplayOrchard$Apple" "size" "I", .methodLink RX1 29 yX1_nearest, .instanceMethod yX1_nearest, .selects RX1 yX1_nearest yX1_nearest, .initialized RX1, .code yX1_nearest cX1_nearest 4 (some (.object "SplayOrchard$Apple")), .fieldLink RX1 7 "SplayOrchard$Tree" "top" "LSplayOrchard$Apple;", .methodLink RX1 25 yX0_towards, .instanceMethod yX0_towards, .selects RX0 yX0_towards yX0_towards, .initialized RX0, .code yX0_towards cX0_towards 2 (some (.object "SplayOrchard$Apple")), .fieldLink RX0 7 "SplayOrchard$Apple" "size" "I", .fieldLink RX0 17 "SplayOrchard$Apple" "left" "LSplayOrchard$Apple;", .fieldLink RX0 23 "SplayOrchard$Apple" "right" "LSplayOrchard$Apple;"] ++ wsX00 ++ wsX10)
def wsX1_hang_r1 : List Cond := [Cond.fieldLink RX1 32 "SplayOrchard$Apple" "size" "I", Cond.methodLink RX1 29 yX1_nearest, Cond.instanceMethod yX1_nearest, Cond.selects RX1 yX1_nearest yX1_nearest, Cond.initialized RX1, Cond.code yX1_nearest cX1_nearest 4 (some (.object "SplayOrchard$Apple")), Cond.fieldLink RX1 7 "SplayOrchard$Tree" "top" "LSplayOrchard$Apple;", Cond.methodLink RX1 25 yX0_towards, Cond.instanceMethod yX0_towards, Cond.selects RX0 yX0_towards yX0_towards, Cond.initialized RX0, Cond.code yX0_towards cX0_towards 2 (some (.object "SplayOrchard$Apple")), Cond.fieldLink RX0 7 "SplayOrchard$Apple" "size" "I", Cond.fieldLink RX0 17 "SplayOrchard$Apple" "left" "LSplayOrchard$Apple;", Cond.fieldLink RX0 23 "SplayOrchard$Apple" "right" "LSplayOrchard$Apple;", Cond.methodLink RX1 36 yX1_setTop, Cond.instanceMethod yX1_setTop, Cond.selects RX1 yX1_setTop yX1_setTop, Cond.code yX1_setTop cX1_setTop 2 none, Cond.fieldLink RX1 13 "SplayOrchard$Apple" "up" "LSplayOrchard$Apple;", Cond.methodLink RX1 40 yX0_hangLeft, Cond.instanceMethod yX0_hangLeft, Cond.selects RX0 yX0_hangLeft yX0_hangLeft, Cond.code yX0_hangLeft cX0_hangLeft 2 none]
def wsX1_hang_r2 : List Cond := [Cond.fieldLink RX0 20 "SplayOrchard$Apple" "up" "LSplayOrchard$Apple;", Cond.methodLink RX1 43 yX0_hangRight, Cond.instanceMethod yX0_hangRight, Cond.selects RX0 yX0_hangRight yX0_hangRight, Cond.code yX0_hangRight cX0_hangRight 2 none]
def wsX1_hang : List Cond := .code yX1_hang cX1_hang 3 none :: ((wsX1_hang_r1 ++ wsX1_hang_r2) ++ wsX00 ++ wsX10)
def wsX1_bringUp_r1 : List Cond := [Cond.fieldLink RX1 13 "SplayOrchard$Apple" "up" "LSplayOrchard$Apple;", Cond.fieldLink RX1 7 "SplayOrchard$Tree" "top" "LSplayOrchard$Apple;", Cond.methodLink RX1 46 yX0_depth, Cond.instanceMethod yX0_depth, Cond.selects RX0 yX0_depth yX0_depth, Cond.initialized RX0, Cond.code yX0_depth cX0_depth 3 (some .int), Cond.fieldLink RX0 20 "SplayOrchard$Apple" "up" "LSplayOrchard$Apple;", Cond.methodLink RX1 50 yX0_isOnTheLeft, Cond.instanceMethod yX0_isOnTheLeft, Cond.selects RX0 yX0_isOnTheLeft yX0_isOnTheLeft, Cond.code yX0_isOnTheLeft cX0_isOnTheLeft 1 (some .boolean), Cond.fieldLink RX0 17 "SplayOrchard$Apple" "left" "LSplayOrchard$Apple;", Cond.methodLink RX1 54 yX0_turn, Cond.instanceMethod yX0_turn, Cond.selects RX0 yX0_turn yX0_turn, Cond.code yX0_turn cX0_turn 4 none, Cond.fieldLink RX0 23 "SplayOrchard$Apple" "right" "LSplayOrchard$Apple;", Cond.methodLink RX0 26 yX0_isOnTheLeft, Cond.methodLink RX0 30 yX0_hangLeft, Cond.instanceMethod yX0_hangLeft, Cond.selects RX0 yX0_hangLeft yX0_hangLeft, Cond.code yX0_hangLeft cX0_hangLeft 2 none, Cond.methodLink RX0 34 yX0_hangRight]
def wsX1_bringUp_r2 : List Cond := [Cond.instanceMethod yX0_hangRight, Cond.selects RX0 yX0_hangRight yX0_hangRight, Cond.code yX0_hangRight cX0_hangRight 2 none]
def wsX1_bringUp : List Cond := .code yX1_bringUp cX1_bringUp 6 (some .int) :: ((wsX1_bringUp_r1 ++ wsX1_bringUp_r2) ++ wsX00 ++ wsX10)
def wsX1_at : List Cond := .code yX1_at cX1_at 4 (some (.object "SplayOrchard$Apple")) :: ([.methodLink RX1 57 yX1_first, .instanceMethod yX1_first, .selects RX1 yX1_first yX1_first, .initialized RX1, .code yX1_first cX1_first 1 (some (.object "SplayOrchard$Apple")), .fieldLink RX1 7 "SplayOrchard$Tree" "top" "LSplayOrchard$Apple;", .methodLink RX1 18 yX0_leastUnder, .instanceMethod yX0_leastUnder, .selects RX0 yX0_leastUnder yX0_leastUnder, .initialized RX0, .code yX0_leastUnder cX0_leastUnder 2 (some (.object "SplayOrchard$Apple")), .fieldLink RX0 17 "SplayOrchard$Apple" "left" "LSplayOrchard$Apple;", .methodLink RX1 60 yX0_next, .instanceMethod yX0_next, .selects RX0 yX0_next yX0_next, .code yX0_next cX0_next 2 (some (.object "SplayOrchard$Apple")), .fieldLink RX0 23 "SplayOrchard$Apple" "right" "LSplayOrchard$Apple;", .fieldLink RX0 20 "SplayOrchard$Apple" "up" "LSplayOrchard$Apple;", .methodLink RX0 37 yX0_leastUnder] ++ wsX10 ++ wsX00)
def wsX1_count : List Cond := .code yX1_count cX1_count 1 (some .int) :: ([.fieldLink RX1 7 "SplayOrchard$Tree" "top" "LSplayOrchard$Apple;", .methodLink RX1 63 yX0_countUnder, .instanceMethod yX0_countUnder, .selects RX0 yX0_countUnder yX0_countUnder, .initialized RX0, .code yX0_countUnder cX0_countUnder 4 (some .int), .methodLink RX0 41 yX0_greatestUnder, .instanceMethod yX0_greatestUnder, .selects RX0 yX0_greatestUnder yX0_greatestUnder, .code yX0_greatestUnder cX0_greatestUnder 2 (some (.object "SplayOrchard$Apple")), .fieldLink RX0 23 "SplayOrchard$Apple" "right" "LSplayOrchard$Apple;", .methodLink RX0 37 yX0_leastUnder, .instanceMethod yX0_leastUnder, .selects RX0 yX0_leastUnder yX0_leastUnder, .code yX0_leastUnder cX0_leastUnder 2 (some (.object "SplayOrchard$Apple")), .fieldLink RX0 17 "SplayOrchard$Apple" "left" "LSplayOrchard$Apple;", .methodLink RX0 44 yX0_next, .instanceMethod yX0_next, .selects RX0 yX0_next yX0_next, .code yX0_next cX0_next 2 (some (.object "SplayOrchard$Apple")), .fieldLink RX0 20 "SplayOrchard$Apple" "up" "LSplayOrchard$Apple;"] ++ wsX10 ++ wsX00)
def wsX1_countBelow : List Cond := .code yX1_countBelow cX1_countBelow 4 (some .int) :: ([.fieldLink RX1 32 "SplayOrchard$Apple" "size" "I", .methodLink RX1 57 yX1_first, .instanceMethod yX1_first, .selects RX1 yX1_first yX1_first, .initialized RX1, .code yX1_first cX1_first 1 (some (.object "SplayOrchard$Apple")), .fieldLink RX1 7 "SplayOrchard$Tree" "top" "LSplayOrchard$Apple;", .methodLink RX1 18 yX0_leastUnder, .instanceMethod yX0_leastUnder, .selects RX0 yX0_leastUnder yX0_leastUnder, .initialized RX0, .code yX0_leastUnder cX0_leastUnder 2 (some (.object "SplayOrchard$Apple")), .fieldLink RX0 17 "SplayOrchard$Apple" "left" "LSplayOrchard$Apple;", .methodLink RX1 60 yX0_next, .instanceMethod yX0_next, .selects RX0 yX0_next yX0_next, .code yX0_next cX0_next 2 (some (.object "SplayOrchard$Apple")), .fieldLink RX0 23 "SplayOrchard$Apple" "right" "LSplayOrchard$Apple;", .fieldLink RX0 20 "SplayOrchard$Apple" "up" "LSplayOrchard$Apple;", .methodLink RX0 37 yX0_leastUnder] ++ wsX00 ++ wsX10)
def wsX1_greatestBelow : List Cond := .code yX1_greatestBelow cX1_greatestBelow 4 (some (.object "SplayOrchard$Apple")) :: ([.fieldLink RX1 32 "SplayOrchard$Apple" "size" "I", .methodLink RX1 57 yX1_first, .instanceMethod yX1_first, .selects RX1 yX1_first yX1_first, .initialized RX1, .code yX1_first cX1_first 1 (some (.object "SplayOrchard$Apple")), .fieldLink RX1 7 "SplayOrchard$Tree" "top" "LSplayOrchard$Apple;", .methodLink RX1 18 yX0_leastUnder, .instanceMethod yX0_leastUnder, .selects RX0 yX0_leastUnder yX0_leastUnder, .initialized RX0, .code yX0_leastUnder cX0_leastUnder 2 (some (.object "SplayOrchard$Apple")), .fieldLink RX0 17 "SplayOrchard$Apple" "left" "LSplayOrchard$Apple;", .methodLink RX1 60 yX0_next, .instanceMethod yX0_next, .selects RX0 yX0_next yX0_next, .code yX0_next cX0_next 2 (some (.object "SplayOrchard$Apple")), .fieldLink RX0 23 "SplayOrchard$Apple" "right" "LSplayOrchard$Apple;", .fieldLink RX0 20 "SplayOrchard$Apple" "up" "LSplayOrchard$Apple;", .methodLink RX0 37 yX0_leastUnder] ++ wsX00 ++ wsX10)
def wsX1_levels_r1 : List Cond := [Cond.methodLink RX1 66 Lib.Math.max.name, Cond.static Lib.Math.max.name, Cond.initialized "java/lang/Math", Cond.code Lib.Math.max.name Lib.Math.max.code 2 (some .int), Cond.methodLink RX1 57 yX1_first, Cond.instanceMethod yX1_first, Cond.selects RX1 yX1_first yX1_first, Cond.initialized RX1, Cond.code yX1_first cX1_first 1 (some (.object "SplayOrchard$Apple")), Cond.fieldLink RX1 7 "SplayOrchard$Tree" "top" "LSplayOrchard$Apple;", Cond.methodLink RX1 18 yX0_leastUnder, Cond.instanceMethod yX0_leastUnder, Cond.selects RX0 yX0_leastUnder yX0_leastUnder, Cond.initialized RX0, Cond.code yX0_leastUnder cX0_leastUnder 2 (some (.object "SplayOrchard$Apple")), Cond.fieldLink RX0 17 "SplayOrchard$Apple" "left" "LSplayOrchard$Apple;", Cond.methodLink RX1 46 yX0_depth, Cond.instanceMethod yX0_depth, Cond.selects RX0 yX0_depth yX0_depth, Cond.code yX0_depth cX0_depth 3 (some .int), Cond.fieldLink RX0 20 "SplayOrchard$Apple" "up" "LSplayOrchard$Apple;", Cond.methodLink RX1 60 yX0_next, Cond.instanceMethod yX0_next, Cond.selects RX0 yX0_next yX0_next]
def wsX1_levels_r2 : List Cond := [Cond.code yX0_next cX0_next 2 (some (.object "SplayOrchard$Apple")), Cond.fieldLink RX0 23 "SplayOrchard$Apple" "right" "LSplayOrchard$Apple;", Cond.methodLink RX0 37 yX0_leastUnder]
def wsX1_levels : List Cond := .code yX1_levels cX1_levels 3 (some .int) :: ((wsX1_levels_r1 ++ wsX1_levels_r2) ++ wsX10 ++ wsX00)
def wsX1_depthSum : List Cond := .code yX1_depthSum cX1_depthSum 3 (some .int) :: ([.methodLink RX1 57 yX1_first, .instanceMethod yX1_first, .selects RX1 yX1_first yX1_first, .initialized RX1, .code yX1_first cX1_first 1 (some (.object "SplayOrchard$Apple")), .fieldLink RX1 7 "SplayOrchard$Tree" "top" "LSplayOrchard$Apple;", .methodLink RX1 18 yX0_leastUnder, .instanceMethod yX0_leastUnder, .selects RX0 yX0_leastUnder yX0_leastUnder, .initialized RX0, .code yX0_leastUnder cX0_leastUnder 2 (some (.object "SplayOrchard$Apple")), .fieldLink RX0 17 "SplayOrchard$Apple" "left" "LSplayOrchard$Apple;", .methodLink RX1 46 yX0_depth, .instanceMethod yX0_depth, .selects RX0 yX0_depth yX0_depth, .code yX0_depth cX0_depth 3 (some .int), .fieldLink RX0 20 "SplayOrchard$Apple" "up" "LSplayOrchard$Apple;", .methodLink RX1 60 yX0_next, .instanceMethod yX0_next, .selects RX0 yX0_next yX0_next, .code yX0_next cX0_next 2 (some (.object "SplayOrchard$Apple")), .fieldLink RX0 23 "SplayOrchard$Apple" "right" "LSplayOrchard$Apple;", .methodLink RX0 37 yX0_leastUnder] ++ wsX10 ++ wsX00)
def wsX1_leafCount : List Cond := .code yX1_leafCount cX1_leafCount 3 (some .int) :: ([.fieldLink RX1 72 "SplayOrchard$Apple" "left" "LSplayOrchard$Apple;", .fieldLink RX1 75 "SplayOrchard$Apple" "right" "LSplayOrchard$Apple;", .methodLink RX1 57 yX1_first, .instanceMethod yX1_first, .selects RX1 yX1_first yX1_first, .initialized RX1, .code yX1_first cX1_first 1 (some (.object "SplayOrchard$Apple")), .fieldLink RX1 7 "SplayOrchard$Tree" "top" "LSplayOrchard$Apple;", .methodLink RX1 18 yX0_leastUnder, .instanceMethod yX0_leastUnder, .selects RX0 yX0_leastUnder yX0_leastUnder, .initialized RX0, .code yX0_leastUnder cX0_leastUnder 2 (some (.object "SplayOrchard$Apple")), .fieldLink RX0 17 "SplayOrchard$Apple" "left" "LSplayOrchard$Apple;", .methodLink RX1 60 yX0_next, .instanceMethod yX0_next, .selects RX0 yX0_next yX0_next, .code yX0_next cX0_next 2 (some (.object "SplayOrchard$Apple")), .fieldLink RX0 23 "SplayOrchard$Apple" "right" "LSplayOrchard$Apple;", .fieldLink RX0 20 "SplayOrchard$Apple" "up" "LSplayOrchard$Apple;", .methodLink RX0 37 yX0_leastUnder] ++ wsX00 ++ wsX10)
def wsX1_mostBitten : List Cond := .code yX1_mostBitten cX1_mostBitten 3 (some (.object "SplayOrchard$Apple")) :: ([.fieldLink RX1 78 "SplayOrchard$Apple" "bites" "I", .methodLink RX1 57 yX1_first, .instanceMethod yX1_first, .selects RX1 yX1_first yX1_first, .initialized RX1, .code yX1_first cX1_first 1 (some (.object "SplayOrchard$Apple")), .fieldLink RX1 7 "SplayOrchard$Tree" "top" "LSplayOrchard$Apple;", .methodLink RX1 18 yX0_leastUnder, .instanceMethod yX0_leastUnder, .selects RX0 yX0_leastUnder yX0_leastUnder, .initialized RX0, .code yX0_leastUnder cX0_leastUnder 2 (some (.object "SplayOrchard$Apple")), .fieldLink RX0 17 "SplayOrchard$Apple" "left" "LSplayOrchard$Apple;", .methodLink RX1 60 yX0_next, .instanceMethod yX0_next, .selects RX0 yX0_next yX0_next, .code yX0_next cX0_next 2 (some (.object "SplayOrchard$Apple")), .fieldLink RX0 23 "SplayOrchard$Apple" "right" "LSplayOrchard$Apple;", .fieldLink RX0 20 "SplayOrchard$Apple" "up" "LSplayOrchard$Apple;", .methodLink RX0 37 yX0_leastUnder] ++ wsX00 ++ wsX10)
def wsX1_meeting : List Cond := .code yX1_meeting cX1_meeting 6 (some (.object "SplayOrchard$Apple")) :: ([.fieldLink RX1 32 "SplayOrchard$Apple" "size" "I", .methodLink RX1 81 Lib.Math.min.name, .static Lib.Math.min.name, .initialized "java/lang/Math", .code Lib.Math.min.name Lib.Math.min.code 2 (some .int), .methodLink RX1 66 Lib.Math.max.name, .static Lib.Math.max.name, .code Lib.Math.max.name Lib.Math.max.code 2 (some .int), .fieldLink RX1 7 "SplayOrchard$Tree" "top" "LSplayOrchard$Apple;", .methodLink RX1 25 yX0_towards, .instanceMethod yX0_towards, .selects RX0 yX0_towards yX0_towards, .initialized RX0, .code yX0_towards cX0_towards 2 (some (.object "SplayOrchard$Apple")), .fieldLink RX0 7 "SplayOrchard$Apple" "size" "I", .fieldLink RX0 17 "SplayOrchard$Apple" "left" "LSplayOrchard$Apple;", .fieldLink RX0 23 "SplayOrchard$Apple" "right" "LSplayOrchard$Apple;"] ++ wsX00 ++ wsX10)
def wsX1_standInFor_r1 : List Cond := [Cond.fieldLink RX1 7 "SplayOrchard$Tree" "top" "LSplayOrchard$Apple;", Cond.methodLink RX1 57 yX1_first, Cond.instanceMethod yX1_first, Cond.selects RX1 yX1_first yX1_first, Cond.initialized RX1, Cond.code yX1_first cX1_first 1 (some (.object "SplayOrchard$Apple")), Cond.methodLink RX1 18 yX0_leastUnder, Cond.instanceMethod yX0_leastUnder, Cond.selects RX0 yX0_leastUnder yX0_leastUnder, Cond.initialized RX0, Cond.code yX0_leastUnder cX0_leastUnder 2 (some (.object "SplayOrchard$Apple")), Cond.fieldLink RX0 17 "SplayOrchard$Apple" "left" "LSplayOrchard$Apple;", Cond.methodLink RX1 84 yX0_linkStandIn, Cond.instanceMethod yX0_linkStandIn, Cond.selects RX0 yX0_linkStandIn yX0_linkStandIn, Cond.code yX0_linkStandIn cX0_linkStandIn 1 none, Cond.fieldLink RX0 13 "SplayOrchard$Apple" "standIn" "LSplayOrchard$Apple;", Cond.fieldLink RX0 20 "SplayOrchard$Apple" "up" "LSplayOrchard$Apple;", Cond.fieldLink RX0 23 "SplayOrchard$Apple" "right" "LSplayOrchard$Apple;", Cond.methodLink RX0 47 yX0_standInOf, Cond.static yX0_standInOf, Cond.code yX0_standInOf cX0_standInOf 1 (some (.object "SplayOrchard$Apple")), Cond.methodLink RX1 60 yX0_next, Cond.instanceMethod yX0_next]
def wsX1_standInFor_r2 : List Cond := [Cond.selects RX0 yX0_next yX0_next, Cond.code yX0_next cX0_next 2 (some (.object "SplayOrchard$Apple")), Cond.methodLink RX0 37 yX0_leastUnder, Cond.methodLink RX1 87 yX0_standInOf]
def wsX1_standInFor : List Cond := .code yX1_standInFor cX1_standInFor 3 none :: ((wsX1_standInFor_r1 ++ wsX1_standInFor_r2) ++ wsX10 ++ wsX00)
def wsX2_init : List Cond := .code yX2_init cX2_init 2 none :: ([.methodLink RX2 1 objectInit, .instanceMethod objectInit, .code objectInit ⟨#[0xb1]⟩ 1 none, .classLink RX2 9 RX1, .fieldLink RX2 11 "SplayOrchard" "rows" "[LSplayOrchard$Tree;", .instantiable RX1 1, .initialized RX1, .fieldLink RX2 16 "SplayOrchard" "trial" "LSplayOrchard$Tree;", .instanceMethod yX1_init, .code yX1_init cX1_init 1 none, .methodLink RX1 1 objectInit] ++ wsX20 ++ wsX10)
def wsX2_treeOf : List Cond := .code yX2_treeOf cX2_treeOf 2 (some (.object "SplayOrchard$Tree")) :: ([.classLink RX2 125 "java/lang/IndexOutOfBoundsException", .initialized "java/lang/IndexOutOfBoundsException", .fieldLink RX2 11 "SplayOrchard" "rows" "[LSplayOrchard$Tree;"] ++ wsX20 ++ (vx_atS RX2 129 "java/lang/IndexOutOfBoundsException" ["java/lang/RuntimeException", "java/lang/Exception"]).filter goodWord)
def wsX2_checkSize : List Cond := .code yX2_checkSize cX2_checkSize 1 none :: ([.classLink RX2 208 "java/lang/IllegalArgumentException", .initialized "java/lang/IllegalArgumentException"] ++ (vx_atS RX2 212 "java/lang/IllegalArgumentException" ["java/lang/RuntimeException", "java/lang/Exception"]).filter goodWord)
def wsX2_apples_r1 : List Cond := [Cond.fieldLink RX2 11 "SplayOrchard" "rows" "[LSplayOrchard$Tree;", Cond.methodLink RX2 93 yX1_count, Cond.instanceMethod yX1_count, Cond.selects RX1 yX1_count yX1_count, Cond.initialized RX1, Cond.code yX1_count cX1_count 1 (some .int), Cond.fieldLink RX1 7 "SplayOrchard$Tree" "top" "LSplayOrchard$Apple;", Cond.methodLink RX1 63 yX0_countUnder, Cond.instanceMethod yX0_countUnder, Cond.selects RX0 yX0_countUnder yX0_countUnder, Cond.initialized RX0, Cond.code yX0_countUnder cX0_countUnder 4 (some .int), Cond.methodLink RX0 41 yX0_greatestUnder, Cond.instanceMethod yX0_greatestUnder, Cond.selects RX0 yX0_greatestUnder yX0_greatestUnder, Cond.code yX0_greatestUnder cX0_greatestUnder 2 (some (.object "SplayOrchard$Apple")), Cond.fieldLink RX0 23 "SplayOrchard$Apple" "right" "LSplayOrchard$Apple;", Cond.methodLink RX0 37 yX0_leastUnder, Cond.instanceMethod yX0_leastUnder, Cond.selects RX0 yX0_leastUnder yX0_leastUnder, Cond.code yX0_leastUnder cX0_leastUnder 2 (some (.object "SplayOrchard$Apple")), Cond.fieldLink RX0 17 "SplayOrchard$Apple" "left" "LSplayOrchard$Apple;", Cond.methodLink RX0 44 yX0_next, Cond.instanceMethod yX0_next]
def wsX2_apples_r2 : List Cond := [Cond.selects RX0 yX0_next yX0_next, Cond.code yX0_next cX0_next 2 (some (.object "SplayOrchard$Apple")), Cond.fieldLink RX0 20 "SplayOrchard$Apple" "up" "LSplayOrchard$Apple;"]
def wsX2_apples : List Cond := .code yX2_apples cX2_apples 6 (some .int) :: ((wsX2_apples_r1 ++ wsX2_apples_r2) ++ wsX20 ++ wsX10 ++ wsX00)
def wsX2_bringUp_r1 : List Cond := [Cond.fieldLink RX2 102 "SplayOrchard" "turned" "I", Cond.methodLink RX2 215 yX1_bringUp, Cond.instanceMethod yX1_bringUp, Cond.selects RX1 yX1_bringUp yX1_bringUp, Cond.initialized RX1, Cond.code yX1_bringUp cX1_bringUp 6 (some .int), Cond.fieldLink RX1 13 "SplayOrchard$Apple" "up" "LSplayOrchard$Apple;", Cond.fieldLink RX1 7 "SplayOrchard$Tree" "top" "LSplayOrchard$Apple;", Cond.methodLink RX1 46 yX0_depth, Cond.instanceMethod yX0_depth, Cond.selects RX0 yX0_depth yX0_depth, Cond.initialized RX0, Cond.code yX0_depth cX0_depth 3 (some .int), Cond.fieldLink RX0 20 "SplayOrchard$Apple" "up" "LSplayOrchard$Apple;", Cond.methodLink RX1 50 yX0_isOnTheLeft, Cond.instanceMethod yX0_isOnTheLeft, Cond.selects RX0 yX0_isOnTheLeft yX0_isOnTheLeft, Cond.code yX0_isOnTheLeft cX0_isOnTheLeft 1 (some .boolean), Cond.fieldLink RX0 17 "SplayOrchard$Apple" "left" "LSplayOrchard$Apple;", Cond.methodLink RX1 54 yX0_turn, Cond.instanceMethod yX0_turn, Cond.selects RX0 yX0_turn yX0_turn, Cond.code yX0_turn cX0_turn 4 none, Cond.fieldLink RX0 23 "SplayOrchard$Apple" "right" "LSplayOrchard$Apple;"]
def wsX2_bringUp_r2 : List Cond := [Cond.methodLink RX0 26 yX0_isOnTheLeft, Cond.methodLink RX0 30 yX0_hangLeft, Cond.instanceMethod yX0_hangLeft, Cond.selects RX0 yX0_hangLeft yX0_hangLeft, Cond.code yX0_hangLeft cX0_hangLeft 2 none, Cond.methodLink RX0 34 yX0_hangRight, Cond.instanceMethod yX0_hangRight, Cond.selects RX0 yX0_hangRight yX0_hangRight, Cond.code yX0_hangRight cX0_hangRight 2 none]
def wsX2_bringUp : List Cond := .code yX2_bringUp cX2_bringUp 4 (some .int) :: ((wsX2_bringUp_r1 ++ wsX2_bringUp_r2) ++ wsX20 ++ wsX00 ++ wsX10)
def wsX2_plant_r1 : List Cond := [Cond.classLink RX2 32 "java/lang/IllegalStateException", Cond.initialized "java/lang/IllegalStateException", Cond.classLink RX2 45 RX0, Cond.instantiable RX0 6, Cond.initialized RX0, Cond.methodLink RX2 20 yX2_treeOf, Cond.instanceMethod yX2_treeOf, Cond.selects RX2 yX2_treeOf yX2_treeOf, Cond.initialized RX2, Cond.code yX2_treeOf cX2_treeOf 2 (some (.object "SplayOrchard$Tree")), Cond.classLink RX2 125 "java/lang/IndexOutOfBoundsException", Cond.initialized "java/lang/IndexOutOfBoundsException", Cond.fieldLink RX2 11 "SplayOrchard" "rows" "[LSplayOrchard$Tree;", Cond.methodLink RX2 24 yX2_checkSize, Cond.static yX2_checkSize, Cond.code yX2_checkSize cX2_checkSize 1 none, Cond.classLink RX2 208 "java/lang/IllegalArgumentException", Cond.initialized "java/lang/IllegalArgumentException", Cond.methodLink RX2 28 yX2_apples, Cond.instanceMethod yX2_apples, Cond.selects RX2 yX2_apples yX2_apples, Cond.code yX2_apples cX2_apples 6 (some .int), Cond.methodLink RX2 93 yX1_count, Cond.instanceMethod yX1_count]
def wsX2_plant_r2 : List Cond := [Cond.selects RX1 yX1_count yX1_count, Cond.initialized RX1, Cond.code yX1_count cX1_count 1 (some .int), Cond.fieldLink RX1 7 "SplayOrchard$Tree" "top" "LSplayOrchard$Apple;", Cond.methodLink RX1 63 yX0_countUnder, Cond.instanceMethod yX0_countUnder, Cond.selects RX0 yX0_countUnder yX0_countUnder, Cond.code yX0_countUnder cX0_countUnder 4 (some .int), Cond.methodLink RX0 41 yX0_greatestUnder, Cond.instanceMethod yX0_greatestUnder, Cond.selects RX0 yX0_greatestUnder yX0_greatestUnder, Cond.code yX0_greatestUnder cX0_greatestUnder 2 (some (.object "SplayOrchard$Apple")), Cond.fieldLink RX0 23 "SplayOrchard$Apple" "right" "LSplayOrchard$Apple;", Cond.methodLink RX0 37 yX0_leastUnder, Cond.instanceMethod yX0_leastUnder, Cond.selects RX0 yX0_leastUnder yX0_leastUnder, Cond.code yX0_leastUnder cX0_leastUnder 2 (some (.object "SplayOrchard$Apple")), Cond.fieldLink RX0 17 "SplayOrchard$Apple" "left" "LSplayOrchard$Apple;", Cond.methodLink RX0 44 yX0_next, Cond.instanceMethod yX0_next, Cond.selects RX0 yX0_next yX0_next, Cond.code yX0_next cX0_next 2 (some (.object "SplayOrchard$Apple")), Cond.fieldLink RX0 20 "SplayOrchard$Apple" "up" "LSplayOrchard$Apple;", Cond.methodLink RX2 39 yX1_find]
def wsX2_plant_r3 : List Cond := [Cond.instanceMethod yX1_find, Cond.selects RX1 yX1_find yX1_find, Cond.code yX1_find cX1_find 3 (some (.object "SplayOrchard$Apple")), Cond.fieldLink RX1 32 "SplayOrchard$Apple" "size" "I", Cond.methodLink RX1 29 yX1_nearest, Cond.instanceMethod yX1_nearest, Cond.selects RX1 yX1_nearest yX1_nearest, Cond.code yX1_nearest cX1_nearest 4 (some (.object "SplayOrchard$Apple")), Cond.methodLink RX1 25 yX0_towards, Cond.instanceMethod yX0_towards, Cond.selects RX0 yX0_towards yX0_towards, Cond.code yX0_towards cX0_towards 2 (some (.object "SplayOrchard$Apple")), Cond.fieldLink RX0 7 "SplayOrchard$Apple" "size" "I", Cond.methodLink RX2 47 yX0_init, Cond.instanceMethod yX0_init, Cond.code yX0_init cX0_init 3 none, Cond.methodLink RX0 1 objectInit, Cond.instanceMethod objectInit, Cond.code objectInit ⟨#[0xb1]⟩ 1 none, Cond.fieldLink RX0 13 "SplayOrchard$Apple" "standIn" "LSplayOrchard$Apple;", Cond.methodLink RX2 50 yX1_hang, Cond.instanceMethod yX1_hang, Cond.selects RX1 yX1_hang yX1_hang, Cond.code yX1_hang cX1_hang 3 none]
def wsX2_plant_r4 : List Cond := [Cond.methodLink RX1 36 yX1_setTop, Cond.instanceMethod yX1_setTop, Cond.selects RX1 yX1_setTop yX1_setTop, Cond.code yX1_setTop cX1_setTop 2 none, Cond.fieldLink RX1 13 "SplayOrchard$Apple" "up" "LSplayOrchard$Apple;", Cond.methodLink RX1 40 yX0_hangLeft, Cond.instanceMethod yX0_hangLeft, Cond.selects RX0 yX0_hangLeft yX0_hangLeft, Cond.code yX0_hangLeft cX0_hangLeft 2 none, Cond.methodLink RX1 43 yX0_hangRight, Cond.instanceMethod yX0_hangRight, Cond.selects RX0 yX0_hangRight yX0_hangRight, Cond.code yX0_hangRight cX0_hangRight 2 none, Cond.methodLink RX2 54 yX2_bringUp, Cond.instanceMethod yX2_bringUp, Cond.selects RX2 yX2_bringUp yX2_bringUp, Cond.code yX2_bringUp cX2_bringUp 4 (some .int), Cond.fieldLink RX2 102 "SplayOrchard" "turned" "I", Cond.methodLink RX2 215 yX1_bringUp, Cond.instanceMethod yX1_bringUp, Cond.selects RX1 yX1_bringUp yX1_bringUp, Cond.code yX1_bringUp cX1_bringUp 6 (some .int), Cond.methodLink RX1 46 yX0_depth, Cond.instanceMethod yX0_depth]
def wsX2_plant_r5 : List Cond := [Cond.selects RX0 yX0_depth yX0_depth, Cond.code yX0_depth cX0_depth 3 (some .int), Cond.methodLink RX1 50 yX0_isOnTheLeft, Cond.instanceMethod yX0_isOnTheLeft, Cond.selects RX0 yX0_isOnTheLeft yX0_isOnTheLeft, Cond.code yX0_isOnTheLeft cX0_isOnTheLeft 1 (some .boolean), Cond.methodLink RX1 54 yX0_turn, Cond.instanceMethod yX0_turn, Cond.selects RX0 yX0_turn yX0_turn, Cond.code yX0_turn cX0_turn 4 none, Cond.methodLink RX0 26 yX0_isOnTheLeft, Cond.methodLink RX0 30 yX0_hangLeft, Cond.methodLink RX0 34 yX0_hangRight]
def wsX2_plant : List Cond := .code yX2_plant cX2_plant 5 (some .int) :: ((wsX2_plant_r1 ++ (wsX2_plant_r2 ++ (wsX2_plant_r3 ++ (wsX2_plant_r4 ++ wsX2_plant_r5)))) ++ wsX00 ++ wsX20 ++ wsX10 ++ (vx_atS RX2 36 "java/lang/IllegalStateException" ["java/lang/RuntimeException", "java/lang/Exception"]).filter goodWord ++ (vx_atS RX2 129 "java/lang/IndexOutOfBoundsException" ["java/lang/RuntimeException", "java/lang/Exception"]).filter goodWord ++ (vx_atS RX2 212 "java/lang/IllegalArgumentException" ["java/lang/RuntimeException", "java/lang/Exception"]).filter goodWord)
def wsX2_appleOf : List Cond := .code yX2_appleOf cX2_appleOf 3 (some (.object "SplayOrchard$Apple")) :: ([.classLink RX2 32 "java/lang/IllegalStateException", .initialized "java/lang/IllegalStateException", .methodLink RX2 39 yX1_find, .instanceMethod yX1_find, .selects RX1 yX1_find yX1_find, .initialized RX1, .code yX1_find cX1_find 3 (some (.object "SplayOrchard$Apple")), .fieldLink RX1 32 "SplayOrchard$Apple" "size" "I", .methodLink RX1 29 yX1_nearest, .instanceMethod yX1_nearest, .selects RX1 yX1_nearest yX1_nearest, .code yX1_nearest cX1_nearest 4 (some (.object "SplayOrchard$Apple")), .fieldLink RX1 7 "SplayOrchard$Tree" "top" "LSplayOrchard$Apple;", .methodLink RX1 25 yX0_towards, .instanceMethod yX0_towards, .selects RX0 yX0_towards yX0_towards, .initialized RX0, .code yX0_towards cX0_towards 2 (some (.object "SplayOrchard$Apple")), .fieldLink RX0 7 "SplayOrchard$Apple" "size" "I", .fieldLink RX0 17 "SplayOrchard$Apple" "left" "LSplayOrchard$Apple;", .fieldLink RX0 23 "SplayOrchard$Apple" "right" "LSplayOrchard$Apple;"] ++ wsX00 ++ wsX10 ++ (vx_atS RX2 36 "java/lang/IllegalStateException" ["java/lang/RuntimeException", "java/lang/Exception"]).filter goodWord)
def wsX2_eat_r1 : List Cond := [Cond.fieldLink RX2 62 "SplayOrchard$Apple" "bites" "I", Cond.methodLink RX2 20 yX2_treeOf, Cond.instanceMethod yX2_treeOf, Cond.selects RX2 yX2_treeOf yX2_treeOf, Cond.initialized RX2, Cond.code yX2_treeOf cX2_treeOf 2 (some (.object "SplayOrchard$Tree")), Cond.classLink RX2 125 "java/lang/IndexOutOfBoundsException", Cond.initialized "java/lang/IndexOutOfBoundsException", Cond.fieldLink RX2 11 "SplayOrchard" "rows" "[LSplayOrchard$Tree;", Cond.methodLink RX2 58 yX2_appleOf, Cond.static yX2_appleOf, Cond.code yX2_appleOf cX2_appleOf 3 (some (.object "SplayOrchard$Apple")), Cond.classLink RX2 32 "java/lang/IllegalStateException", Cond.initialized "java/lang/IllegalStateException", Cond.methodLink RX2 39 yX1_find, Cond.instanceMethod yX1_find, Cond.selects RX1 yX1_find yX1_find, Cond.initialized RX1, Cond.code yX1_find cX1_find 3 (some (.object "SplayOrchard$Apple")), Cond.fieldLink RX1 32 "SplayOrchard$Apple" "size" "I", Cond.methodLink RX1 29 yX1_nearest, Cond.instanceMethod yX1_nearest, Cond.selects RX1 yX1_nearest yX1_nearest, Cond.code yX1_nearest cX1_nearest 4 (some (.object "SplayOrchard$Apple"))]
def wsX2_eat_r2 : List Cond := [Cond.fieldLink RX1 7 "SplayOrchard$Tree" "top" "LSplayOrchard$Apple;", Cond.methodLink RX1 25 yX0_towards, Cond.instanceMethod yX0_towards, Cond.selects RX0 yX0_towards yX0_towards, Cond.initialized RX0, Cond.code yX0_towards cX0_towards 2 (some (.object "SplayOrchard$Apple")), Cond.fieldLink RX0 7 "SplayOrchard$Apple" "size" "I", Cond.fieldLink RX0 17 "SplayOrchard$Apple" "left" "LSplayOrchard$Apple;", Cond.fieldLink RX0 23 "SplayOrchard$Apple" "right" "LSplayOrchard$Apple;", Cond.methodLink RX2 54 yX2_bringUp, Cond.instanceMethod yX2_bringUp, Cond.selects RX2 yX2_bringUp yX2_bringUp, Cond.code yX2_bringUp cX2_bringUp 4 (some .int), Cond.fieldLink RX2 102 "SplayOrchard" "turned" "I", Cond.methodLink RX2 215 yX1_bringUp, Cond.instanceMethod yX1_bringUp, Cond.selects RX1 yX1_bringUp yX1_bringUp, Cond.code yX1_bringUp cX1_bringUp 6 (some .int), Cond.fieldLink RX1 13 "SplayOrchard$Apple" "up" "LSplayOrchard$Apple;", Cond.methodLink RX1 46 yX0_depth, Cond.instanceMethod yX0_depth, Cond.selects RX0 yX0_depth yX0_depth, Cond.code yX0_depth cX0_depth 3 (some .int), Cond.fieldLink RX0 20 "SplayOrchard$Apple" "up" "LSplayOrchard$Apple;"]
def wsX2_eat_r3 : List Cond := [Cond.methodLink RX1 50 yX0_isOnTheLeft, Cond.instanceMethod yX0_isOnTheLeft, Cond.selects RX0 yX0_isOnTheLeft yX0_isOnTheLeft, Cond.code yX0_isOnTheLeft cX0_isOnTheLeft 1 (some .boolean), Cond.methodLink RX1 54 yX0_turn, Cond.instanceMethod yX0_turn, Cond.selects RX0 yX0_turn yX0_turn, Cond.code yX0_turn cX0_turn 4 none, Cond.methodLink RX0 26 yX0_isOnTheLeft, Cond.methodLink RX0 30 yX0_hangLeft, Cond.instanceMethod yX0_hangLeft, Cond.selects RX0 yX0_hangLeft yX0_hangLeft, Cond.code yX0_hangLeft cX0_hangLeft 2 none, Cond.methodLink RX0 34 yX0_hangRight, Cond.instanceMethod yX0_hangRight, Cond.selects RX0 yX0_hangRight yX0_hangRight, Cond.code yX0_hangRight cX0_hangRight 2 none]
def wsX2_eat : List Cond := .code yX2_eat cX2_eat 5 (some .int) :: ((wsX2_eat_r1 ++ (wsX2_eat_r2 ++ wsX2_eat_r3)) ++ wsX00 ++ wsX20 ++ wsX10 ++ (vx_atS RX2 129 "java/lang/IndexOutOfBoundsException" ["java/lang/RuntimeException", "java/lang/Exception"]).filter goodWord ++ (vx_atS RX2 36 "java/lang/IllegalStateException" ["java/lang/RuntimeException", "java/lang/Exception"]).filter goodWord)
def wsX2_append_r1 : List Cond := [Cond.methodLink RX2 119 yX1_last, Cond.instanceMethod yX1_last, Cond.selects RX1 yX1_last yX1_last, Cond.initialized RX1, Cond.code yX1_last cX1_last 1 (some (.object "SplayOrchard$Apple")), Cond.fieldLink RX1 7 "SplayOrchard$Tree" "top" "LSplayOrchard$Apple;", Cond.methodLink RX1 22 yX0_greatestUnder, Cond.instanceMethod yX0_greatestUnder, Cond.selects RX0 yX0_greatestUnder yX0_greatestUnder, Cond.initialized RX0, Cond.code yX0_greatestUnder cX0_greatestUnder 2 (some (.object "SplayOrchard$Apple")), Cond.fieldLink RX0 23 "SplayOrchard$Apple" "right" "LSplayOrchard$Apple;", Cond.methodLink RX2 70 yX1_setTop, Cond.instanceMethod yX1_setTop, Cond.selects RX1 yX1_setTop yX1_setTop, Cond.code yX1_setTop cX1_setTop 2 none, Cond.fieldLink RX1 13 "SplayOrchard$Apple" "up" "LSplayOrchard$Apple;", Cond.methodLink RX2 54 yX2_bringUp, Cond.instanceMethod yX2_bringUp, Cond.selects RX2 yX2_bringUp yX2_bringUp, Cond.initialized RX2, Cond.code yX2_bringUp cX2_bringUp 4 (some .int), Cond.fieldLink RX2 102 "SplayOrchard" "turned" "I", Cond.methodLink RX2 215 yX1_bringUp]
def wsX2_append_r2 : List Cond := [Cond.instanceMethod yX1_bringUp, Cond.selects RX1 yX1_bringUp yX1_bringUp, Cond.code yX1_bringUp cX1_bringUp 6 (some .int), Cond.methodLink RX1 46 yX0_depth, Cond.instanceMethod yX0_depth, Cond.selects RX0 yX0_depth yX0_depth, Cond.code yX0_depth cX0_depth 3 (some .int), Cond.fieldLink RX0 20 "SplayOrchard$Apple" "up" "LSplayOrchard$Apple;", Cond.methodLink RX1 50 yX0_isOnTheLeft, Cond.instanceMethod yX0_isOnTheLeft, Cond.selects RX0 yX0_isOnTheLeft yX0_isOnTheLeft, Cond.code yX0_isOnTheLeft cX0_isOnTheLeft 1 (some .boolean), Cond.fieldLink RX0 17 "SplayOrchard$Apple" "left" "LSplayOrchard$Apple;", Cond.methodLink RX1 54 yX0_turn, Cond.instanceMethod yX0_turn, Cond.selects RX0 yX0_turn yX0_turn, Cond.code yX0_turn cX0_turn 4 none, Cond.methodLink RX0 26 yX0_isOnTheLeft, Cond.methodLink RX0 30 yX0_hangLeft, Cond.instanceMethod yX0_hangLeft, Cond.selects RX0 yX0_hangLeft yX0_hangLeft, Cond.code yX0_hangLeft cX0_hangLeft 2 none, Cond.methodLink RX0 34 yX0_hangRight, Cond.instanceMethod yX0_hangRight]
def wsX2_append_r3 : List Cond := [Cond.selects RX0 yX0_hangRight yX0_hangRight, Cond.code yX0_hangRight cX0_hangRight 2 none, Cond.methodLink RX2 90 yX0_hangRight]
def wsX2_append : List Cond := .code yX2_append cX2_append 4 none :: ((wsX2_append_r1 ++ (wsX2_append_r2 ++ wsX2_append_r3)) ++ wsX10 ++ wsX00 ++ wsX20)
def wsX2_pick_r1 : List Cond := [Cond.fieldLink RX2 66 "SplayOrchard$Apple" "left" "LSplayOrchard$Apple;", Cond.fieldLink RX2 73 "SplayOrchard$Apple" "right" "LSplayOrchard$Apple;", Cond.fieldLink RX2 62 "SplayOrchard$Apple" "bites" "I", Cond.methodLink RX2 20 yX2_treeOf, Cond.instanceMethod yX2_treeOf, Cond.selects RX2 yX2_treeOf yX2_treeOf, Cond.initialized RX2, Cond.code yX2_treeOf cX2_treeOf 2 (some (.object "SplayOrchard$Tree")), Cond.classLink RX2 125 "java/lang/IndexOutOfBoundsException", Cond.initialized "java/lang/IndexOutOfBoundsException", Cond.fieldLink RX2 11 "SplayOrchard" "rows" "[LSplayOrchard$Tree;", Cond.methodLink RX2 58 yX2_appleOf, Cond.static yX2_appleOf, Cond.code yX2_appleOf cX2_appleOf 3 (some (.object "SplayOrchard$Apple")), Cond.classLink RX2 32 "java/lang/IllegalStateException", Cond.initialized "java/lang/IllegalStateException", Cond.methodLink RX2 39 yX1_find, Cond.instanceMethod yX1_find, Cond.selects RX1 yX1_find yX1_find, Cond.initialized RX1, Cond.code yX1_find cX1_find 3 (some (.object "SplayOrchard$Apple")), Cond.fieldLink RX1 32 "SplayOrchard$Apple" "size" "I", Cond.methodLink RX1 29 yX1_nearest, Cond.instanceMethod yX1_nearest]
def wsX2_pick_r2 : List Cond := [Cond.selects RX1 yX1_nearest yX1_nearest, Cond.code yX1_nearest cX1_nearest 4 (some (.object "SplayOrchard$Apple")), Cond.fieldLink RX1 7 "SplayOrchard$Tree" "top" "LSplayOrchard$Apple;", Cond.methodLink RX1 25 yX0_towards, Cond.instanceMethod yX0_towards, Cond.selects RX0 yX0_towards yX0_towards, Cond.initialized RX0, Cond.code yX0_towards cX0_towards 2 (some (.object "SplayOrchard$Apple")), Cond.fieldLink RX0 7 "SplayOrchard$Apple" "size" "I", Cond.fieldLink RX0 17 "SplayOrchard$Apple" "left" "LSplayOrchard$Apple;", Cond.fieldLink RX0 23 "SplayOrchard$Apple" "right" "LSplayOrchard$Apple;", Cond.methodLink RX2 54 yX2_bringUp, Cond.instanceMethod yX2_bringUp, Cond.selects RX2 yX2_bringUp yX2_bringUp, Cond.code yX2_bringUp cX2_bringUp 4 (some .int), Cond.fieldLink RX2 102 "SplayOrchard" "turned" "I", Cond.methodLink RX2 215 yX1_bringUp, Cond.instanceMethod yX1_bringUp, Cond.selects RX1 yX1_bringUp yX1_bringUp, Cond.code yX1_bringUp cX1_bringUp 6 (some .int), Cond.fieldLink RX1 13 "SplayOrchard$Apple" "up" "LSplayOrchard$Apple;", Cond.methodLink RX1 46 yX0_depth, Cond.instanceMethod yX0_depth, Cond.selects RX0 yX0_depth yX0_depth]
def wsX2_pick_r3 : List Cond := [Cond.code yX0_depth cX0_depth 3 (some .int), Cond.fieldLink RX0 20 "SplayOrchard$Apple" "up" "LSplayOrchard$Apple;", Cond.methodLink RX1 50 yX0_isOnTheLeft, Cond.instanceMethod yX0_isOnTheLeft, Cond.selects RX0 yX0_isOnTheLeft yX0_isOnTheLeft, Cond.code yX0_isOnTheLeft cX0_isOnTheLeft 1 (some .boolean), Cond.methodLink RX1 54 yX0_turn, Cond.instanceMethod yX0_turn, Cond.selects RX0 yX0_turn yX0_turn, Cond.code yX0_turn cX0_turn 4 none, Cond.methodLink RX0 26 yX0_isOnTheLeft, Cond.methodLink RX0 30 yX0_hangLeft, Cond.instanceMethod yX0_hangLeft, Cond.selects RX0 yX0_hangLeft yX0_hangLeft, Cond.code yX0_hangLeft cX0_hangLeft 2 none, Cond.methodLink RX0 34 yX0_hangRight, Cond.instanceMethod yX0_hangRight, Cond.selects RX0 yX0_hangRight yX0_hangRight, Cond.code yX0_hangRight cX0_hangRight 2 none, Cond.methodLink RX2 70 yX1_setTop, Cond.instanceMethod yX1_setTop, Cond.selects RX1 yX1_setTop yX1_setTop, Cond.code yX1_setTop cX1_setTop 2 none, Cond.methodLink RX2 76 yX2_append]
def wsX2_pick_r4 : List Cond := [Cond.instanceMethod yX2_append, Cond.selects RX2 yX2_append yX2_append, Cond.code yX2_append cX2_append 4 none, Cond.methodLink RX2 119 yX1_last, Cond.instanceMethod yX1_last, Cond.selects RX1 yX1_last yX1_last, Cond.code yX1_last cX1_last 1 (some (.object "SplayOrchard$Apple")), Cond.methodLink RX1 22 yX0_greatestUnder, Cond.instanceMethod yX0_greatestUnder, Cond.selects RX0 yX0_greatestUnder yX0_greatestUnder, Cond.code yX0_greatestUnder cX0_greatestUnder 2 (some (.object "SplayOrchard$Apple")), Cond.methodLink RX2 90 yX0_hangRight]
def wsX2_pick : List Cond := .code yX2_pick cX2_pick 5 (some .int) :: ((wsX2_pick_r1 ++ (wsX2_pick_r2 ++ (wsX2_pick_r3 ++ wsX2_pick_r4))) ++ wsX00 ++ wsX20 ++ wsX10 ++ (vx_atS RX2 129 "java/lang/IndexOutOfBoundsException" ["java/lang/RuntimeException", "java/lang/Exception"]).filter goodWord ++ (vx_atS RX2 36 "java/lang/IllegalStateException" ["java/lang/RuntimeException", "java/lang/Exception"]).filter goodWord)
def wsX2_split_r1 : List Cond := [Cond.classLink RX2 32 "java/lang/IllegalStateException", Cond.initialized "java/lang/IllegalStateException", Cond.fieldLink RX2 82 "SplayOrchard$Tree" "top" "LSplayOrchard$Apple;", Cond.fieldLink RX2 73 "SplayOrchard$Apple" "right" "LSplayOrchard$Apple;", Cond.methodLink RX2 20 yX2_treeOf, Cond.instanceMethod yX2_treeOf, Cond.selects RX2 yX2_treeOf yX2_treeOf, Cond.initialized RX2, Cond.code yX2_treeOf cX2_treeOf 2 (some (.object "SplayOrchard$Tree")), Cond.classLink RX2 125 "java/lang/IndexOutOfBoundsException", Cond.initialized "java/lang/IndexOutOfBoundsException", Cond.fieldLink RX2 11 "SplayOrchard" "rows" "[LSplayOrchard$Tree;", Cond.methodLink RX2 24 yX2_checkSize, Cond.static yX2_checkSize, Cond.code yX2_checkSize cX2_checkSize 1 none, Cond.classLink RX2 208 "java/lang/IllegalArgumentException", Cond.initialized "java/lang/IllegalArgumentException", Cond.methodLink RX2 87 yX1_greatestBelow, Cond.instanceMethod yX1_greatestBelow, Cond.selects RX1 yX1_greatestBelow yX1_greatestBelow, Cond.initialized RX1, Cond.code yX1_greatestBelow cX1_greatestBelow 4 (some (.object "SplayOrchard$Apple")), Cond.fieldLink RX1 32 "SplayOrchard$Apple" "size" "I", Cond.methodLink RX1 57 yX1_first]
def wsX2_split_r2 : List Cond := [Cond.instanceMethod yX1_first, Cond.selects RX1 yX1_first yX1_first, Cond.code yX1_first cX1_first 1 (some (.object "SplayOrchard$Apple")), Cond.fieldLink RX1 7 "SplayOrchard$Tree" "top" "LSplayOrchard$Apple;", Cond.methodLink RX1 18 yX0_leastUnder, Cond.instanceMethod yX0_leastUnder, Cond.selects RX0 yX0_leastUnder yX0_leastUnder, Cond.initialized RX0, Cond.code yX0_leastUnder cX0_leastUnder 2 (some (.object "SplayOrchard$Apple")), Cond.fieldLink RX0 17 "SplayOrchard$Apple" "left" "LSplayOrchard$Apple;", Cond.methodLink RX1 60 yX0_next, Cond.instanceMethod yX0_next, Cond.selects RX0 yX0_next yX0_next, Cond.code yX0_next cX0_next 2 (some (.object "SplayOrchard$Apple")), Cond.fieldLink RX0 23 "SplayOrchard$Apple" "right" "LSplayOrchard$Apple;", Cond.fieldLink RX0 20 "SplayOrchard$Apple" "up" "LSplayOrchard$Apple;", Cond.methodLink RX0 37 yX0_leastUnder, Cond.methodLink RX2 70 yX1_setTop, Cond.instanceMethod yX1_setTop, Cond.selects RX1 yX1_setTop yX1_setTop, Cond.code yX1_setTop cX1_setTop 2 none, Cond.fieldLink RX1 13 "SplayOrchard$Apple" "up" "LSplayOrchard$Apple;", Cond.methodLink RX2 54 yX2_bringUp, Cond.instanceMethod yX2_bringUp]
def wsX2_split_r3 : List Cond := [Cond.selects RX2 yX2_bringUp yX2_bringUp, Cond.code yX2_bringUp cX2_bringUp 4 (some .int), Cond.fieldLink RX2 102 "SplayOrchard" "turned" "I", Cond.methodLink RX2 215 yX1_bringUp, Cond.instanceMethod yX1_bringUp, Cond.selects RX1 yX1_bringUp yX1_bringUp, Cond.code yX1_bringUp cX1_bringUp 6 (some .int), Cond.methodLink RX1 46 yX0_depth, Cond.instanceMethod yX0_depth, Cond.selects RX0 yX0_depth yX0_depth, Cond.code yX0_depth cX0_depth 3 (some .int), Cond.methodLink RX1 50 yX0_isOnTheLeft, Cond.instanceMethod yX0_isOnTheLeft, Cond.selects RX0 yX0_isOnTheLeft yX0_isOnTheLeft, Cond.code yX0_isOnTheLeft cX0_isOnTheLeft 1 (some .boolean), Cond.methodLink RX1 54 yX0_turn, Cond.instanceMethod yX0_turn, Cond.selects RX0 yX0_turn yX0_turn, Cond.code yX0_turn cX0_turn 4 none, Cond.methodLink RX0 26 yX0_isOnTheLeft, Cond.methodLink RX0 30 yX0_hangLeft, Cond.instanceMethod yX0_hangLeft, Cond.selects RX0 yX0_hangLeft yX0_hangLeft, Cond.code yX0_hangLeft cX0_hangLeft 2 none]
def wsX2_split_r4 : List Cond := [Cond.methodLink RX0 34 yX0_hangRight, Cond.instanceMethod yX0_hangRight, Cond.selects RX0 yX0_hangRight yX0_hangRight, Cond.code yX0_hangRight cX0_hangRight 2 none, Cond.methodLink RX2 90 yX0_hangRight, Cond.methodLink RX2 93 yX1_count, Cond.instanceMethod yX1_count, Cond.selects RX1 yX1_count yX1_count, Cond.code yX1_count cX1_count 1 (some .int), Cond.methodLink RX1 63 yX0_countUnder, Cond.instanceMethod yX0_countUnder, Cond.selects RX0 yX0_countUnder yX0_countUnder, Cond.code yX0_countUnder cX0_countUnder 4 (some .int), Cond.methodLink RX0 41 yX0_greatestUnder, Cond.instanceMethod yX0_greatestUnder, Cond.selects RX0 yX0_greatestUnder yX0_greatestUnder, Cond.code yX0_greatestUnder cX0_greatestUnder 2 (some (.object "SplayOrchard$Apple")), Cond.methodLink RX0 44 yX0_next]
def wsX2_split : List Cond := .code yX2_split cX2_split 7 (some .int) :: ((wsX2_split_r1 ++ (wsX2_split_r2 ++ (wsX2_split_r3 ++ wsX2_split_r4))) ++ wsX10 ++ wsX00 ++ wsX20 ++ (vx_atS RX2 36 "java/lang/IllegalStateException" ["java/lang/RuntimeException", "java/lang/Exception"]).filter goodWord ++ (vx_atS RX2 129 "java/lang/IndexOutOfBoundsException" ["java/lang/RuntimeException", "java/lang/Exception"]).filter goodWord ++ (vx_atS RX2 212 "java/lang/IllegalArgumentException" ["java/lang/RuntimeException", "java/lang/Exception"]).filter goodWord)
def wsX2_mayJoin : List Cond := .code yX2_mayJoin cX2_mayJoin 4 (some .boolean) :: ([.fieldLink RX2 130 "SplayOrchard$Apple" "size" "I", .methodLink RX2 119 yX1_last, .instanceMethod yX1_last, .selects RX1 yX1_last yX1_last, .initialized RX1, .code yX1_last cX1_last 1 (some (.object "SplayOrchard$Apple")), .fieldLink RX1 7 "SplayOrchard$Tree" "top" "LSplayOrchard$Apple;", .methodLink RX1 22 yX0_greatestUnder, .instanceMethod yX0_greatestUnder, .selects RX0 yX0_greatestUnder yX0_greatestUnder, .initialized RX0, .code yX0_greatestUnder cX0_greatestUnder 2 (some (.object "SplayOrchard$Apple")), .fieldLink RX0 23 "SplayOrchard$Apple" "right" "LSplayOrchard$Apple;", .methodLink RX2 115 yX1_first, .instanceMethod yX1_first, .selects RX1 yX1_first yX1_first, .code yX1_first cX1_first 1 (some (.object "SplayOrchard$Apple")), .methodLink RX1 18 yX0_leastUnder, .instanceMethod yX0_leastUnder, .selects RX0 yX0_leastUnder yX0_leastUnder, .code yX0_leastUnder cX0_leastUnder 2 (some (.object "SplayOrchard$Apple")), .fieldLink RX0 17 "SplayOrchard$Apple" "left" "LSplayOrchard$Apple;"] ++ wsX00 ++ wsX10)
def wsX2_join_r1 : List Cond := [Cond.classLink RX2 32 "java/lang/IllegalStateException", Cond.initialized "java/lang/IllegalStateException", Cond.fieldLink RX2 82 "SplayOrchard$Tree" "top" "LSplayOrchard$Apple;", Cond.methodLink RX2 20 yX2_treeOf, Cond.instanceMethod yX2_treeOf, Cond.selects RX2 yX2_treeOf yX2_treeOf, Cond.initialized RX2, Cond.code yX2_treeOf cX2_treeOf 2 (some (.object "SplayOrchard$Tree")), Cond.classLink RX2 125 "java/lang/IndexOutOfBoundsException", Cond.initialized "java/lang/IndexOutOfBoundsException", Cond.fieldLink RX2 11 "SplayOrchard" "rows" "[LSplayOrchard$Tree;", Cond.methodLink RX2 96 yX2_mayJoin, Cond.static yX2_mayJoin, Cond.code yX2_mayJoin cX2_mayJoin 4 (some .boolean), Cond.fieldLink RX2 130 "SplayOrchard$Apple" "size" "I", Cond.methodLink RX2 119 yX1_last, Cond.instanceMethod yX1_last, Cond.selects RX1 yX1_last yX1_last, Cond.initialized RX1, Cond.code yX1_last cX1_last 1 (some (.object "SplayOrchard$Apple")), Cond.fieldLink RX1 7 "SplayOrchard$Tree" "top" "LSplayOrchard$Apple;", Cond.methodLink RX1 22 yX0_greatestUnder, Cond.instanceMethod yX0_greatestUnder, Cond.selects RX0 yX0_greatestUnder yX0_greatestUnder]
def wsX2_join_r2 : List Cond := [Cond.initialized RX0, Cond.code yX0_greatestUnder cX0_greatestUnder 2 (some (.object "SplayOrchard$Apple")), Cond.fieldLink RX0 23 "SplayOrchard$Apple" "right" "LSplayOrchard$Apple;", Cond.methodLink RX2 115 yX1_first, Cond.instanceMethod yX1_first, Cond.selects RX1 yX1_first yX1_first, Cond.code yX1_first cX1_first 1 (some (.object "SplayOrchard$Apple")), Cond.methodLink RX1 18 yX0_leastUnder, Cond.instanceMethod yX0_leastUnder, Cond.selects RX0 yX0_leastUnder yX0_leastUnder, Cond.code yX0_leastUnder cX0_leastUnder 2 (some (.object "SplayOrchard$Apple")), Cond.fieldLink RX0 17 "SplayOrchard$Apple" "left" "LSplayOrchard$Apple;", Cond.methodLink RX2 76 yX2_append, Cond.instanceMethod yX2_append, Cond.selects RX2 yX2_append yX2_append, Cond.code yX2_append cX2_append 4 none, Cond.methodLink RX2 70 yX1_setTop, Cond.instanceMethod yX1_setTop, Cond.selects RX1 yX1_setTop yX1_setTop, Cond.code yX1_setTop cX1_setTop 2 none, Cond.fieldLink RX1 13 "SplayOrchard$Apple" "up" "LSplayOrchard$Apple;", Cond.methodLink RX2 54 yX2_bringUp, Cond.instanceMethod yX2_bringUp, Cond.selects RX2 yX2_bringUp yX2_bringUp]
def wsX2_join_r3 : List Cond := [Cond.code yX2_bringUp cX2_bringUp 4 (some .int), Cond.fieldLink RX2 102 "SplayOrchard" "turned" "I", Cond.methodLink RX2 215 yX1_bringUp, Cond.instanceMethod yX1_bringUp, Cond.selects RX1 yX1_bringUp yX1_bringUp, Cond.code yX1_bringUp cX1_bringUp 6 (some .int), Cond.methodLink RX1 46 yX0_depth, Cond.instanceMethod yX0_depth, Cond.selects RX0 yX0_depth yX0_depth, Cond.code yX0_depth cX0_depth 3 (some .int), Cond.fieldLink RX0 20 "SplayOrchard$Apple" "up" "LSplayOrchard$Apple;", Cond.methodLink RX1 50 yX0_isOnTheLeft, Cond.instanceMethod yX0_isOnTheLeft, Cond.selects RX0 yX0_isOnTheLeft yX0_isOnTheLeft, Cond.code yX0_isOnTheLeft cX0_isOnTheLeft 1 (some .boolean), Cond.methodLink RX1 54 yX0_turn, Cond.instanceMethod yX0_turn, Cond.selects RX0 yX0_turn yX0_turn, Cond.code yX0_turn cX0_turn 4 none, Cond.methodLink RX0 26 yX0_isOnTheLeft, Cond.methodLink RX0 30 yX0_hangLeft, Cond.instanceMethod yX0_hangLeft, Cond.selects RX0 yX0_hangLeft yX0_hangLeft, Cond.code yX0_hangLeft cX0_hangLeft 2 none]
def wsX2_join_r4 : List Cond := [Cond.methodLink RX0 34 yX0_hangRight, Cond.instanceMethod yX0_hangRight, Cond.selects RX0 yX0_hangRight yX0_hangRight, Cond.code yX0_hangRight cX0_hangRight 2 none, Cond.methodLink RX2 90 yX0_hangRight, Cond.methodLink RX2 93 yX1_count, Cond.instanceMethod yX1_count, Cond.selects RX1 yX1_count yX1_count, Cond.code yX1_count cX1_count 1 (some .int), Cond.methodLink RX1 63 yX0_countUnder, Cond.instanceMethod yX0_countUnder, Cond.selects RX0 yX0_countUnder yX0_countUnder, Cond.code yX0_countUnder cX0_countUnder 4 (some .int), Cond.methodLink RX0 41 yX0_greatestUnder, Cond.methodLink RX0 37 yX0_leastUnder, Cond.methodLink RX0 44 yX0_next, Cond.instanceMethod yX0_next, Cond.selects RX0 yX0_next yX0_next, Cond.code yX0_next cX0_next 2 (some (.object "SplayOrchard$Apple"))]
def wsX2_join : List Cond := .code yX2_join cX2_join 5 (some .int) :: ((wsX2_join_r1 ++ (wsX2_join_r2 ++ (wsX2_join_r3 ++ wsX2_join_r4))) ++ wsX10 ++ wsX20 ++ wsX00 ++ (vx_atS RX2 36 "java/lang/IllegalStateException" ["java/lang/RuntimeException", "java/lang/Exception"]).filter goodWord ++ (vx_atS RX2 129 "java/lang/IndexOutOfBoundsException" ["java/lang/RuntimeException", "java/lang/Exception"]).filter goodWord)
def wsX2_turnings : List Cond := .code yX2_turnings cX2_turnings 1 (some .int) :: ([.fieldLink RX2 102 "SplayOrchard" "turned" "I"] ++ wsX20)
def wsX2_sizeOf_r1 : List Cond := [Cond.methodLink RX2 20 yX2_treeOf, Cond.instanceMethod yX2_treeOf, Cond.selects RX2 yX2_treeOf yX2_treeOf, Cond.initialized RX2, Cond.code yX2_treeOf cX2_treeOf 2 (some (.object "SplayOrchard$Tree")), Cond.classLink RX2 125 "java/lang/IndexOutOfBoundsException", Cond.initialized "java/lang/IndexOutOfBoundsException", Cond.fieldLink RX2 11 "SplayOrchard" "rows" "[LSplayOrchard$Tree;", Cond.methodLink RX2 93 yX1_count, Cond.instanceMethod yX1_count, Cond.selects RX1 yX1_count yX1_count, Cond.initialized RX1, Cond.code yX1_count cX1_count 1 (some .int), Cond.fieldLink RX1 7 "SplayOrchard$Tree" "top" "LSplayOrchard$Apple;", Cond.methodLink RX1 63 yX0_countUnder, Cond.instanceMethod yX0_countUnder, Cond.selects RX0 yX0_countUnder yX0_countUnder, Cond.initialized RX0, Cond.code yX0_countUnder cX0_countUnder 4 (some .int), Cond.methodLink RX0 41 yX0_greatestUnder, Cond.instanceMethod yX0_greatestUnder, Cond.selects RX0 yX0_greatestUnder yX0_greatestUnder, Cond.code yX0_greatestUnder cX0_greatestUnder 2 (some (.object "SplayOrchard$Apple")), Cond.fieldLink RX0 23 "SplayOrchard$Apple" "right" "LSplayOrchard$Apple;"]
def wsX2_sizeOf_r2 : List Cond := [Cond.methodLink RX0 37 yX0_leastUnder, Cond.instanceMethod yX0_leastUnder, Cond.selects RX0 yX0_leastUnder yX0_leastUnder, Cond.code yX0_leastUnder cX0_leastUnder 2 (some (.object "SplayOrchard$Apple")), Cond.fieldLink RX0 17 "SplayOrchard$Apple" "left" "LSplayOrchard$Apple;", Cond.methodLink RX0 44 yX0_next, Cond.instanceMethod yX0_next, Cond.selects RX0 yX0_next yX0_next, Cond.code yX0_next cX0_next 2 (some (.object "SplayOrchard$Apple")), Cond.fieldLink RX0 20 "SplayOrchard$Apple" "up" "LSplayOrchard$Apple;"]
def wsX2_sizeOf : List Cond := .code yX2_sizeOf cX2_sizeOf 2 (some .int) :: ((wsX2_sizeOf_r1 ++ wsX2_sizeOf_r2) ++ wsX20 ++ wsX10 ++ wsX00 ++ (vx_atS RX2 129 "java/lang/IndexOutOfBoundsException" ["java/lang/RuntimeException", "java/lang/Exception"]).filter goodWord)
def wsX2_sizeOrNone : List Cond := .code yX2_sizeOrNone cX2_sizeOrNone 1 (some .int) :: ([.fieldLink RX2 130 "SplayOrchard$Apple" "size" "I"] ++ wsX00)
def wsX2_top : List Cond := .code yX2_top cX2_top 2 (some .int) :: ([.fieldLink RX2 82 "SplayOrchard$Tree" "top" "LSplayOrchard$Apple;", .methodLink RX2 20 yX2_treeOf, .instanceMethod yX2_treeOf, .selects RX2 yX2_treeOf yX2_treeOf, .initialized RX2, .code yX2_treeOf cX2_treeOf 2 (some (.object "SplayOrchard$Tree")), .classLink RX2 125 "java/lang/IndexOutOfBoundsException", .initialized "java/lang/IndexOutOfBoundsException", .fieldLink RX2 11 "SplayOrchard" "rows" "[LSplayOrchard$Tree;", .methodLink RX2 105 yX2_sizeOrNone, .static yX2_sizeOrNone, .code yX2_sizeOrNone cX2_sizeOrNone 1 (some .int), .fieldLink RX2 130 "SplayOrchard$Apple" "size" "I"] ++ wsX10 ++ wsX20 ++ wsX00 ++ (vx_atS RX2 129 "java/lang/IndexOutOfBoundsException" ["java/lang/RuntimeException", "java/lang/Exception"]).filter goodWord)
def wsX2_height_r1 : List Cond := [Cond.methodLink RX2 20 yX2_treeOf, Cond.instanceMethod yX2_treeOf, Cond.selects RX2 yX2_treeOf yX2_treeOf, Cond.initialized RX2, Cond.code yX2_treeOf cX2_treeOf 2 (some (.object "SplayOrchard$Tree")), Cond.classLink RX2 125 "java/lang/IndexOutOfBoundsException", Cond.initialized "java/lang/IndexOutOfBoundsException", Cond.fieldLink RX2 11 "SplayOrchard" "rows" "[LSplayOrchard$Tree;", Cond.methodLink RX2 109 yX1_levels, Cond.instanceMethod yX1_levels, Cond.selects RX1 yX1_levels yX1_levels, Cond.initialized RX1, Cond.code yX1_levels cX1_levels 3 (some .int), Cond.methodLink RX1 66 Lib.Math.max.name, Cond.static Lib.Math.max.name, Cond.initialized "java/lang/Math", Cond.code Lib.Math.max.name Lib.Math.max.code 2 (some .int), Cond.methodLink RX1 57 yX1_first, Cond.instanceMethod yX1_first, Cond.selects RX1 yX1_first yX1_first, Cond.code yX1_first cX1_first 1 (some (.object "SplayOrchard$Apple")), Cond.fieldLink RX1 7 "SplayOrchard$Tree" "top" "LSplayOrchard$Apple;", Cond.methodLink RX1 18 yX0_leastUnder, Cond.instanceMethod yX0_leastUnder]
def wsX2_height_r2 : List Cond := [Cond.selects RX0 yX0_leastUnder yX0_leastUnder, Cond.initialized RX0, Cond.code yX0_leastUnder cX0_leastUnder 2 (some (.object "SplayOrchard$Apple")), Cond.fieldLink RX0 17 "SplayOrchard$Apple" "left" "LSplayOrchard$Apple;", Cond.methodLink RX1 46 yX0_depth, Cond.instanceMethod yX0_depth, Cond.selects RX0 yX0_depth yX0_depth, Cond.code yX0_depth cX0_depth 3 (some .int), Cond.fieldLink RX0 20 "SplayOrchard$Apple" "up" "LSplayOrchard$Apple;", Cond.methodLink RX1 60 yX0_next, Cond.instanceMethod yX0_next, Cond.selects RX0 yX0_next yX0_next, Cond.code yX0_next cX0_next 2 (some (.object "SplayOrchard$Apple")), Cond.fieldLink RX0 23 "SplayOrchard$Apple" "right" "LSplayOrchard$Apple;", Cond.methodLink RX0 37 yX0_leastUnder]
def wsX2_height : List Cond := .code yX2_height cX2_height 2 (some .int) :: ((wsX2_height_r1 ++ wsX2_height_r2) ++ wsX20 ++ wsX10 ++ wsX00 ++ (vx_atS RX2 129 "java/lang/IndexOutOfBoundsException" ["java/lang/RuntimeException", "java/lang/Exception"]).filter goodWord)
def wsX2_leastHeight_r1 : List Cond := [Cond.methodLink RX2 20 yX2_treeOf, Cond.instanceMethod yX2_treeOf, Cond.selects RX2 yX2_treeOf yX2_treeOf, Cond.initialized RX2, Cond.code yX2_treeOf cX2_treeOf 2 (some (.object "SplayOrchard$Tree")), Cond.classLink RX2 125 "java/lang/IndexOutOfBoundsException", Cond.initialized "java/lang/IndexOutOfBoundsException", Cond.fieldLink RX2 11 "SplayOrchard" "rows" "[LSplayOrchard$Tree;", Cond.methodLink RX2 93 yX1_count, Cond.instanceMethod yX1_count, Cond.selects RX1 yX1_count yX1_count, Cond.initialized RX1, Cond.code yX1_count cX1_count 1 (some .int), Cond.fieldLink RX1 7 "SplayOrchard$Tree" "top" "LSplayOrchard$Apple;", Cond.methodLink RX1 63 yX0_countUnder, Cond.instanceMethod yX0_countUnder, Cond.selects RX0 yX0_countUnder yX0_countUnder, Cond.initialized RX0, Cond.code yX0_countUnder cX0_countUnder 4 (some .int), Cond.methodLink RX0 41 yX0_greatestUnder, Cond.instanceMethod yX0_greatestUnder, Cond.selects RX0 yX0_greatestUnder yX0_greatestUnder, Cond.code yX0_greatestUnder cX0_greatestUnder 2 (some (.object "SplayOrchard$Apple")), Cond.fieldLink RX0 23 "SplayOrchard$Apple" "right" "LSplayOrchard$Apple;"]
def wsX2_leastHeight_r2 : List Cond := [Cond.methodLink RX0 37 yX0_leastUnder, Cond.instanceMethod yX0_leastUnder, Cond.selects RX0 yX0_leastUnder yX0_leastUnder, Cond.code yX0_leastUnder cX0_leastUnder 2 (some (.object "SplayOrchard$Apple")), Cond.fieldLink RX0 17 "SplayOrchard$Apple" "left" "LSplayOrchard$Apple;", Cond.methodLink RX0 44 yX0_next, Cond.instanceMethod yX0_next, Cond.selects RX0 yX0_next yX0_next, Cond.code yX0_next cX0_next 2 (some (.object "SplayOrchard$Apple")), Cond.fieldLink RX0 20 "SplayOrchard$Apple" "up" "LSplayOrchard$Apple;"]
def wsX2_leastHeight : List Cond := .code yX2_leastHeight cX2_leastHeight 5 (some .int) :: ((wsX2_leastHeight_r1 ++ wsX2_leastHeight_r2) ++ wsX20 ++ wsX10 ++ wsX00 ++ (vx_atS RX2 129 "java/lang/IndexOutOfBoundsException" ["java/lang/RuntimeException", "java/lang/Exception"]).filter goodWord)
def wsX2_depths_r1 : List Cond := [Cond.methodLink RX2 20 yX2_treeOf, Cond.instanceMethod yX2_treeOf, Cond.selects RX2 yX2_treeOf yX2_treeOf, Cond.initialized RX2, Cond.code yX2_treeOf cX2_treeOf 2 (some (.object "SplayOrchard$Tree")), Cond.classLink RX2 125 "java/lang/IndexOutOfBoundsException", Cond.initialized "java/lang/IndexOutOfBoundsException", Cond.fieldLink RX2 11 "SplayOrchard" "rows" "[LSplayOrchard$Tree;", Cond.methodLink RX2 112 yX1_depthSum, Cond.instanceMethod yX1_depthSum, Cond.selects RX1 yX1_depthSum yX1_depthSum, Cond.initialized RX1, Cond.code yX1_depthSum cX1_depthSum 3 (some .int), Cond.methodLink RX1 57 yX1_first, Cond.instanceMethod yX1_first, Cond.selects RX1 yX1_first yX1_first, Cond.code yX1_first cX1_first 1 (some (.object "SplayOrchard$Apple")), Cond.fieldLink RX1 7 "SplayOrchard$Tree" "top" "LSplayOrchard$Apple;", Cond.methodLink RX1 18 yX0_leastUnder, Cond.instanceMethod yX0_leastUnder, Cond.selects RX0 yX0_leastUnder yX0_leastUnder, Cond.initialized RX0, Cond.code yX0_leastUnder cX0_leastUnder 2 (some (.object "SplayOrchard$Apple")), Cond.fieldLink RX0 17 "SplayOrchard$Apple" "left" "LSplayOrchard$Apple;"]
def wsX2_depths_r2 : List Cond := [Cond.methodLink RX1 46 yX0_depth, Cond.instanceMethod yX0_depth, Cond.selects RX0 yX0_depth yX0_depth, Cond.code yX0_depth cX0_depth 3 (some .int), Cond.fieldLink RX0 20 "SplayOrchard$Apple" "up" "LSplayOrchard$Apple;", Cond.methodLink RX1 60 yX0_next, Cond.instanceMethod yX0_next, Cond.selects RX0 yX0_next yX0_next, Cond.code yX0_next cX0_next 2 (some (.object "SplayOrchard$Apple")), Cond.fieldLink RX0 23 "SplayOrchard$Apple" "right" "LSplayOrchard$Apple;", Cond.methodLink RX0 37 yX0_leastUnder]
def wsX2_depths : List Cond := .code yX2_depths cX2_depths 2 (some .int) :: ((wsX2_depths_r1 ++ wsX2_depths_r2) ++ wsX20 ++ wsX10 ++ wsX00 ++ (vx_atS RX2 129 "java/lang/IndexOutOfBoundsException" ["java/lang/RuntimeException", "java/lang/Exception"]).filter goodWord)
def wsX2_smallest : List Cond := .code yX2_smallest cX2_smallest 2 (some .int) :: ([.methodLink RX2 20 yX2_treeOf, .instanceMethod yX2_treeOf, .selects RX2 yX2_treeOf yX2_treeOf, .initialized RX2, .code yX2_treeOf cX2_treeOf 2 (some (.object "SplayOrchard$Tree")), .classLink RX2 125 "java/lang/IndexOutOfBoundsException", .initialized "java/lang/IndexOutOfBoundsException", .fieldLink RX2 11 "SplayOrchard" "rows" "[LSplayOrchard$Tree;", .methodLink RX2 115 yX1_first, .instanceMethod yX1_first, .selects RX1 yX1_first yX1_first, .initialized RX1, .code yX1_first cX1_first 1 (some (.object "SplayOrchard$Apple")), .fieldLink RX1 7 "SplayOrchard$Tree" "top" "LSplayOrchard$Apple;", .methodLink RX1 18 yX0_leastUnder, .instanceMethod yX0_leastUnder, .selects RX0 yX0_leastUnder yX0_leastUnder, .initialized RX0, .code yX0_leastUnder cX0_leastUnder 2 (some (.object "SplayOrchard$Apple")), .fieldLink RX0 17 "SplayOrchard$Apple" "left" "LSplayOrchard$Apple;", .methodLink RX2 105 yX2_sizeOrNone, .static yX2_sizeOrNone, .code yX2_sizeOrNone cX2_sizeOrNone 1 (some .int), .fieldLink RX2 130 "SplayOrchard$Apple" "size" "I"] ++ wsX20 ++ wsX10 ++ wsX00 ++ (vx_atS RX2 129 "java/lang/IndexOutOfBoundsException" ["java/lang/RuntimeException", "java/lang/Exception"]).filter goodWord)
def wsX2_greatest : List Cond := .code yX2_greatest cX2_greatest 2 (some .int) :: ([.methodLink RX2 20 yX2_treeOf, .instanceMethod yX2_treeOf, .selects RX2 yX2_treeOf yX2_treeOf, .initialized RX2, .code yX2_treeOf cX2_treeOf 2 (some (.object "SplayOrchard$Tree")), .classLink RX2 125 "java/lang/IndexOutOfBoundsException", .initialized "java/lang/IndexOutOfBoundsException", .fieldLink RX2 11 "SplayOrchard" "rows" "[LSplayOrchard$Tree;", .methodLink RX2 119 yX1_last, .instanceMethod yX1_last, .selects RX1 yX1_last yX1_last, .initialized RX1, .code yX1_last cX1_last 1 (some (.object "SplayOrchard$Apple")), .fieldLink RX1 7 "SplayOrchard$Tree" "top" "LSplayOrchard$Apple;", .methodLink RX1 22 yX0_greatestUnder, .instanceMethod yX0_greatestUnder, .selects RX0 yX0_greatestUnder yX0_greatestUnder, .initialized RX0, .code yX0_greatestUnder cX0_greatestUnder 2 (some (.object "SplayOrchard$Apple")), .fieldLink RX0 23 "SplayOrchard$Apple" "right" "LSplayOrchard$Apple;", .methodLink RX2 105 yX2_sizeOrNone, .static yX2_sizeOrNone, .code yX2_sizeOrNone cX2_sizeOrNone 1 (some .int), .fieldLink RX2 130 "SplayOrchard$Apple" "size" "I"] ++ wsX20 ++ wsX10 ++ wsX00 ++ (vx_atS RX2 129 "java/lang/IndexOutOfBoundsException" ["java/lang/RuntimeException", "java/lang/Exception"]).filter goodWord)
def wsX2_inOrder_r1 : List Cond := [Cond.classLink RX2 125 "java/lang/IndexOutOfBoundsException", Cond.initialized "java/lang/IndexOutOfBoundsException", Cond.fieldLink RX2 130 "SplayOrchard$Apple" "size" "I", Cond.methodLink RX2 20 yX2_treeOf, Cond.instanceMethod yX2_treeOf, Cond.selects RX2 yX2_treeOf yX2_treeOf, Cond.initialized RX2, Cond.code yX2_treeOf cX2_treeOf 2 (some (.object "SplayOrchard$Tree")), Cond.fieldLink RX2 11 "SplayOrchard" "rows" "[LSplayOrchard$Tree;", Cond.methodLink RX2 122 yX1_at, Cond.instanceMethod yX1_at, Cond.selects RX1 yX1_at yX1_at, Cond.initialized RX1, Cond.code yX1_at cX1_at 4 (some (.object "SplayOrchard$Apple")), Cond.methodLink RX1 57 yX1_first, Cond.instanceMethod yX1_first, Cond.selects RX1 yX1_first yX1_first, Cond.code yX1_first cX1_first 1 (some (.object "SplayOrchard$Apple")), Cond.fieldLink RX1 7 "SplayOrchard$Tree" "top" "LSplayOrchard$Apple;", Cond.methodLink RX1 18 yX0_leastUnder, Cond.instanceMethod yX0_leastUnder, Cond.selects RX0 yX0_leastUnder yX0_leastUnder, Cond.initialized RX0, Cond.code yX0_leastUnder cX0_leastUnder 2 (some (.object "SplayOrchard$Apple"))]
def wsX2_inOrder_r2 : List Cond := [Cond.fieldLink RX0 17 "SplayOrchard$Apple" "left" "LSplayOrchard$Apple;", Cond.methodLink RX1 60 yX0_next, Cond.instanceMethod yX0_next, Cond.selects RX0 yX0_next yX0_next, Cond.code yX0_next cX0_next 2 (some (.object "SplayOrchard$Apple")), Cond.fieldLink RX0 23 "SplayOrchard$Apple" "right" "LSplayOrchard$Apple;", Cond.fieldLink RX0 20 "SplayOrchard$Apple" "up" "LSplayOrchard$Apple;", Cond.methodLink RX0 37 yX0_leastUnder]
def wsX2_inOrder : List Cond := .code yX2_inOrder cX2_inOrder 4 (some .int) :: ((wsX2_inOrder_r1 ++ wsX2_inOrder_r2) ++ wsX00 ++ wsX20 ++ wsX10 ++ (vx_atS RX2 129 "java/lang/IndexOutOfBoundsException" ["java/lang/RuntimeException", "java/lang/Exception"]).filter goodWord)
def wsX2_leaves_r1 : List Cond := [Cond.methodLink RX2 20 yX2_treeOf, Cond.instanceMethod yX2_treeOf, Cond.selects RX2 yX2_treeOf yX2_treeOf, Cond.initialized RX2, Cond.code yX2_treeOf cX2_treeOf 2 (some (.object "SplayOrchard$Tree")), Cond.classLink RX2 125 "java/lang/IndexOutOfBoundsException", Cond.initialized "java/lang/IndexOutOfBoundsException", Cond.fieldLink RX2 11 "SplayOrchard" "rows" "[LSplayOrchard$Tree;", Cond.methodLink RX2 133 yX1_leafCount, Cond.instanceMethod yX1_leafCount, Cond.selects RX1 yX1_leafCount yX1_leafCount, Cond.initialized RX1, Cond.code yX1_leafCount cX1_leafCount 3 (some .int), Cond.fieldLink RX1 72 "SplayOrchard$Apple" "left" "LSplayOrchard$Apple;", Cond.fieldLink RX1 75 "SplayOrchard$Apple" "right" "LSplayOrchard$Apple;", Cond.methodLink RX1 57 yX1_first, Cond.instanceMethod yX1_first, Cond.selects RX1 yX1_first yX1_first, Cond.code yX1_first cX1_first 1 (some (.object "SplayOrchard$Apple")), Cond.fieldLink RX1 7 "SplayOrchard$Tree" "top" "LSplayOrchard$Apple;", Cond.methodLink RX1 18 yX0_leastUnder, Cond.instanceMethod yX0_leastUnder, Cond.selects RX0 yX0_leastUnder yX0_leastUnder, Cond.initialized RX0]
def wsX2_leaves_r2 : List Cond := [Cond.code yX0_leastUnder cX0_leastUnder 2 (some (.object "SplayOrchard$Apple")), Cond.fieldLink RX0 17 "SplayOrchard$Apple" "left" "LSplayOrchard$Apple;", Cond.methodLink RX1 60 yX0_next, Cond.instanceMethod yX0_next, Cond.selects RX0 yX0_next yX0_next, Cond.code yX0_next cX0_next 2 (some (.object "SplayOrchard$Apple")), Cond.fieldLink RX0 23 "SplayOrchard$Apple" "right" "LSplayOrchard$Apple;", Cond.fieldLink RX0 20 "SplayOrchard$Apple" "up" "LSplayOrchard$Apple;", Cond.methodLink RX0 37 yX0_leastUnder]
def wsX2_leaves : List Cond := .code yX2_leaves cX2_leaves 2 (some .int) :: ((wsX2_leaves_r1 ++ wsX2_leaves_r2) ++ wsX20 ++ wsX00 ++ wsX10 ++ (vx_atS RX2 129 "java/lang/IndexOutOfBoundsException" ["java/lang/RuntimeException", "java/lang/Exception"]).filter goodWord)
def wsX2_has_r1 : List Cond := [Cond.methodLink RX2 20 yX2_treeOf, Cond.instanceMethod yX2_treeOf, Cond.selects RX2 yX2_treeOf yX2_treeOf, Cond.initialized RX2, Cond.code yX2_treeOf cX2_treeOf 2 (some (.object "SplayOrchard$Tree")), Cond.classLink RX2 125 "java/lang/IndexOutOfBoundsException", Cond.initialized "java/lang/IndexOutOfBoundsException", Cond.fieldLink RX2 11 "SplayOrchard" "rows" "[LSplayOrchard$Tree;", Cond.methodLink RX2 39 yX1_find, Cond.instanceMethod yX1_find, Cond.selects RX1 yX1_find yX1_find, Cond.initialized RX1, Cond.code yX1_find cX1_find 3 (some (.object "SplayOrchard$Apple")), Cond.fieldLink RX1 32 "SplayOrchard$Apple" "size" "I", Cond.methodLink RX1 29 yX1_nearest, Cond.instanceMethod yX1_nearest, Cond.selects RX1 yX1_nearest yX1_nearest, Cond.code yX1_nearest cX1_nearest 4 (some (.object "SplayOrchard$Apple")), Cond.fieldLink RX1 7 "SplayOrchard$Tree" "top" "LSplayOrchard$Apple;", Cond.methodLink RX1 25 yX0_towards, Cond.instanceMethod yX0_towards, Cond.selects RX0 yX0_towards yX0_towards, Cond.initialized RX0, Cond.code yX0_towards cX0_towards 2 (some (.object "SplayOrchard$Apple"))]
def wsX2_has_r2 : List Cond := [Cond.fieldLink RX0 7 "SplayOrchard$Apple" "size" "I", Cond.fieldLink RX0 17 "SplayOrchard$Apple" "left" "LSplayOrchard$Apple;", Cond.fieldLink RX0 23 "SplayOrchard$Apple" "right" "LSplayOrchard$Apple;"]
def wsX2_has : List Cond := .code yX2_has cX2_has 3 (some .boolean) :: ((wsX2_has_r1 ++ wsX2_has_r2) ++ wsX20 ++ wsX00 ++ wsX10 ++ (vx_atS RX2 129 "java/lang/IndexOutOfBoundsException" ["java/lang/RuntimeException", "java/lang/Exception"]).filter goodWord)
def wsX2_smaller_r1 : List Cond := [Cond.methodLink RX2 20 yX2_treeOf, Cond.instanceMethod yX2_treeOf, Cond.selects RX2 yX2_treeOf yX2_treeOf, Cond.initialized RX2, Cond.code yX2_treeOf cX2_treeOf 2 (some (.object "SplayOrchard$Tree")), Cond.classLink RX2 125 "java/lang/IndexOutOfBoundsException", Cond.initialized "java/lang/IndexOutOfBoundsException", Cond.fieldLink RX2 11 "SplayOrchard" "rows" "[LSplayOrchard$Tree;", Cond.methodLink RX2 136 yX1_countBelow, Cond.instanceMethod yX1_countBelow, Cond.selects RX1 yX1_countBelow yX1_countBelow, Cond.initialized RX1, Cond.code yX1_countBelow cX1_countBelow 4 (some .int), Cond.fieldLink RX1 32 "SplayOrchard$Apple" "size" "I", Cond.methodLink RX1 57 yX1_first, Cond.instanceMethod yX1_first, Cond.selects RX1 yX1_first yX1_first, Cond.code yX1_first cX1_first 1 (some (.object "SplayOrchard$Apple")), Cond.fieldLink RX1 7 "SplayOrchard$Tree" "top" "LSplayOrchard$Apple;", Cond.methodLink RX1 18 yX0_leastUnder, Cond.instanceMethod yX0_leastUnder, Cond.selects RX0 yX0_leastUnder yX0_leastUnder, Cond.initialized RX0, Cond.code yX0_leastUnder cX0_leastUnder 2 (some (.object "SplayOrchard$Apple"))]
def wsX2_smaller_r2 : List Cond := [Cond.fieldLink RX0 17 "SplayOrchard$Apple" "left" "LSplayOrchard$Apple;", Cond.methodLink RX1 60 yX0_next, Cond.instanceMethod yX0_next, Cond.selects RX0 yX0_next yX0_next, Cond.code yX0_next cX0_next 2 (some (.object "SplayOrchard$Apple")), Cond.fieldLink RX0 23 "SplayOrchard$Apple" "right" "LSplayOrchard$Apple;", Cond.fieldLink RX0 20 "SplayOrchard$Apple" "up" "LSplayOrchard$Apple;", Cond.methodLink RX0 37 yX0_leastUnder]
def wsX2_smaller : List Cond := .code yX2_smaller cX2_smaller 3 (some .int) :: ((wsX2_smaller_r1 ++ wsX2_smaller_r2) ++ wsX20 ++ wsX00 ++ wsX10 ++ (vx_atS RX2 129 "java/lang/IndexOutOfBoundsException" ["java/lang/RuntimeException", "java/lang/Exception"]).filter goodWord)
def wsX2_depthOf_r1 : List Cond := [Cond.methodLink RX2 20 yX2_treeOf, Cond.instanceMethod yX2_treeOf, Cond.selects RX2 yX2_treeOf yX2_treeOf, Cond.initialized RX2, Cond.code yX2_treeOf cX2_treeOf 2 (some (.object "SplayOrchard$Tree")), Cond.classLink RX2 125 "java/lang/IndexOutOfBoundsException", Cond.initialized "java/lang/IndexOutOfBoundsException", Cond.fieldLink RX2 11 "SplayOrchard" "rows" "[LSplayOrchard$Tree;", Cond.methodLink RX2 58 yX2_appleOf, Cond.static yX2_appleOf, Cond.code yX2_appleOf cX2_appleOf 3 (some (.object "SplayOrchard$Apple")), Cond.classLink RX2 32 "java/lang/IllegalStateException", Cond.initialized "java/lang/IllegalStateException", Cond.methodLink RX2 39 yX1_find, Cond.instanceMethod yX1_find, Cond.selects RX1 yX1_find yX1_find, Cond.initialized RX1, Cond.code yX1_find cX1_find 3 (some (.object "SplayOrchard$Apple")), Cond.fieldLink RX1 32 "SplayOrchard$Apple" "size" "I", Cond.methodLink RX1 29 yX1_nearest, Cond.instanceMethod yX1_nearest, Cond.selects RX1 yX1_nearest yX1_nearest, Cond.code yX1_nearest cX1_nearest 4 (some (.object "SplayOrchard$Apple")), Cond.fieldLink RX1 7 "SplayOrchard$Tree" "top" "LSplayOrchard$Apple;"]
def wsX2_depthOf_r2 : List Cond := [Cond.methodLink RX1 25 yX0_towards, Cond.instanceMethod yX0_towards, Cond.selects RX0 yX0_towards yX0_towards, Cond.initialized RX0, Cond.code yX0_towards cX0_towards 2 (some (.object "SplayOrchard$Apple")), Cond.fieldLink RX0 7 "SplayOrchard$Apple" "size" "I", Cond.fieldLink RX0 17 "SplayOrchard$Apple" "left" "LSplayOrchard$Apple;", Cond.fieldLink RX0 23 "SplayOrchard$Apple" "right" "LSplayOrchard$Apple;", Cond.methodLink RX2 140 yX0_depth, Cond.instanceMethod yX0_depth, Cond.selects RX0 yX0_depth yX0_depth, Cond.code yX0_depth cX0_depth 3 (some .int), Cond.fieldLink RX0 20 "SplayOrchard$Apple" "up" "LSplayOrchard$Apple;"]
def wsX2_depthOf : List Cond := .code yX2_depthOf cX2_depthOf 3 (some .int) :: ((wsX2_depthOf_r1 ++ wsX2_depthOf_r2) ++ wsX20 ++ wsX00 ++ wsX10 ++ (vx_atS RX2 129 "java/lang/IndexOutOfBoundsException" ["java/lang/RuntimeException", "java/lang/Exception"]).filter goodWord ++ (vx_atS RX2 36 "java/lang/IllegalStateException" ["java/lang/RuntimeException", "java/lang/Exception"]).filter goodWord)
def wsX2_above_r1 : List Cond := [Cond.fieldLink RX2 143 "SplayOrchard$Apple" "up" "LSplayOrchard$Apple;", Cond.methodLink RX2 20 yX2_treeOf, Cond.instanceMethod yX2_treeOf, Cond.selects RX2 yX2_treeOf yX2_treeOf, Cond.initialized RX2, Cond.code yX2_treeOf cX2_treeOf 2 (some (.object "SplayOrchard$Tree")), Cond.classLink RX2 125 "java/lang/IndexOutOfBoundsException", Cond.initialized "java/lang/IndexOutOfBoundsException", Cond.fieldLink RX2 11 "SplayOrchard" "rows" "[LSplayOrchard$Tree;", Cond.methodLink RX2 58 yX2_appleOf, Cond.static yX2_appleOf, Cond.code yX2_appleOf cX2_appleOf 3 (some (.object "SplayOrchard$Apple")), Cond.classLink RX2 32 "java/lang/IllegalStateException", Cond.initialized "java/lang/IllegalStateException", Cond.methodLink RX2 39 yX1_find, Cond.instanceMethod yX1_find, Cond.selects RX1 yX1_find yX1_find, Cond.initialized RX1, Cond.code yX1_find cX1_find 3 (some (.object "SplayOrchard$Apple")), Cond.fieldLink RX1 32 "SplayOrchard$Apple" "size" "I", Cond.methodLink RX1 29 yX1_nearest, Cond.instanceMethod yX1_nearest, Cond.selects RX1 yX1_nearest yX1_nearest, Cond.code yX1_nearest cX1_nearest 4 (some (.object "SplayOrchard$Apple"))]
def wsX2_above_r2 : List Cond := [Cond.fieldLink RX1 7 "SplayOrchard$Tree" "top" "LSplayOrchard$Apple;", Cond.methodLink RX1 25 yX0_towards, Cond.instanceMethod yX0_towards, Cond.selects RX0 yX0_towards yX0_towards, Cond.initialized RX0, Cond.code yX0_towards cX0_towards 2 (some (.object "SplayOrchard$Apple")), Cond.fieldLink RX0 7 "SplayOrchard$Apple" "size" "I", Cond.fieldLink RX0 17 "SplayOrchard$Apple" "left" "LSplayOrchard$Apple;", Cond.fieldLink RX0 23 "SplayOrchard$Apple" "right" "LSplayOrchard$Apple;", Cond.methodLink RX2 105 yX2_sizeOrNone, Cond.static yX2_sizeOrNone, Cond.code yX2_sizeOrNone cX2_sizeOrNone 1 (some .int), Cond.fieldLink RX2 130 "SplayOrchard$Apple" "size" "I"]
def wsX2_above : List Cond := .code yX2_above cX2_above 3 (some .int) :: ((wsX2_above_r1 ++ wsX2_above_r2) ++ wsX00 ++ wsX20 ++ wsX10 ++ (vx_atS RX2 129 "java/lang/IndexOutOfBoundsException" ["java/lang/RuntimeException", "java/lang/Exception"]).filter goodWord ++ (vx_atS RX2 36 "java/lang/IllegalStateException" ["java/lang/RuntimeException", "java/lang/Exception"]).filter goodWord)
def wsX2_leftOf_r1 : List Cond := [Cond.fieldLink RX2 66 "SplayOrchard$Apple" "left" "LSplayOrchard$Apple;", Cond.methodLink RX2 20 yX2_treeOf, Cond.instanceMethod yX2_treeOf, Cond.selects RX2 yX2_treeOf yX2_treeOf, Cond.initialized RX2, Cond.code yX2_treeOf cX2_treeOf 2 (some (.object "SplayOrchard$Tree")), Cond.classLink RX2 125 "java/lang/IndexOutOfBoundsException", Cond.initialized "java/lang/IndexOutOfBoundsException", Cond.fieldLink RX2 11 "SplayOrchard" "rows" "[LSplayOrchard$Tree;", Cond.methodLink RX2 58 yX2_appleOf, Cond.static yX2_appleOf, Cond.code yX2_appleOf cX2_appleOf 3 (some (.object "SplayOrchard$Apple")), Cond.classLink RX2 32 "java/lang/IllegalStateException", Cond.initialized "java/lang/IllegalStateException", Cond.methodLink RX2 39 yX1_find, Cond.instanceMethod yX1_find, Cond.selects RX1 yX1_find yX1_find, Cond.initialized RX1, Cond.code yX1_find cX1_find 3 (some (.object "SplayOrchard$Apple")), Cond.fieldLink RX1 32 "SplayOrchard$Apple" "size" "I", Cond.methodLink RX1 29 yX1_nearest, Cond.instanceMethod yX1_nearest, Cond.selects RX1 yX1_nearest yX1_nearest, Cond.code yX1_nearest cX1_nearest 4 (some (.object "SplayOrchard$Apple"))]
def wsX2_leftOf_r2 : List Cond := [Cond.fieldLink RX1 7 "SplayOrchard$Tree" "top" "LSplayOrchard$Apple;", Cond.methodLink RX1 25 yX0_towards, Cond.instanceMethod yX0_towards, Cond.selects RX0 yX0_towards yX0_towards, Cond.initialized RX0, Cond.code yX0_towards cX0_towards 2 (some (.object "SplayOrchard$Apple")), Cond.fieldLink RX0 7 "SplayOrchard$Apple" "size" "I", Cond.fieldLink RX0 17 "SplayOrchard$Apple" "left" "LSplayOrchard$Apple;", Cond.fieldLink RX0 23 "SplayOrchard$Apple" "right" "LSplayOrchard$Apple;", Cond.methodLink RX2 105 yX2_sizeOrNone, Cond.static yX2_sizeOrNone, Cond.code yX2_sizeOrNone cX2_sizeOrNone 1 (some .int), Cond.fieldLink RX2 130 "SplayOrchard$Apple" "size" "I"]
def wsX2_leftOf : List Cond := .code yX2_leftOf cX2_leftOf 3 (some .int) :: ((wsX2_leftOf_r1 ++ wsX2_leftOf_r2) ++ wsX00 ++ wsX20 ++ wsX10 ++ (vx_atS RX2 129 "java/lang/IndexOutOfBoundsException" ["java/lang/RuntimeException", "java/lang/Exception"]).filter goodWord ++ (vx_atS RX2 36 "java/lang/IllegalStateException" ["java/lang/RuntimeException", "java/lang/Exception"]).filter goodWord)
def wsX2_rightOf_r1 : List Cond := [Cond.fieldLink RX2 73 "SplayOrchard$Apple" "right" "LSplayOrchard$Apple;", Cond.methodLink RX2 20 yX2_treeOf, Cond.instanceMethod yX2_treeOf, Cond.selects RX2 yX2_treeOf yX2_treeOf, Cond.initialized RX2, Cond.code yX2_treeOf cX2_treeOf 2 (some (.object "SplayOrchard$Tree")), Cond.classLink RX2 125 "java/lang/IndexOutOfBoundsException", Cond.initialized "java/lang/IndexOutOfBoundsException", Cond.fieldLink RX2 11 "SplayOrchard" "rows" "[LSplayOrchard$Tree;", Cond.methodLink RX2 58 yX2_appleOf, Cond.static yX2_appleOf, Cond.code yX2_appleOf cX2_appleOf 3 (some (.object "SplayOrchard$Apple")), Cond.classLink RX2 32 "java/lang/IllegalStateException", Cond.initialized "java/lang/IllegalStateException", Cond.methodLink RX2 39 yX1_find, Cond.instanceMethod yX1_find, Cond.selects RX1 yX1_find yX1_find, Cond.initialized RX1, Cond.code yX1_find cX1_find 3 (some (.object "SplayOrchard$Apple")), Cond.fieldLink RX1 32 "SplayOrchard$Apple" "size" "I", Cond.methodLink RX1 29 yX1_nearest, Cond.instanceMethod yX1_nearest, Cond.selects RX1 yX1_nearest yX1_nearest, Cond.code yX1_nearest cX1_nearest 4 (some (.object "SplayOrchard$Apple"))]
def wsX2_rightOf_r2 : List Cond := [Cond.fieldLink RX1 7 "SplayOrchard$Tree" "top" "LSplayOrchard$Apple;", Cond.methodLink RX1 25 yX0_towards, Cond.instanceMethod yX0_towards, Cond.selects RX0 yX0_towards yX0_towards, Cond.initialized RX0, Cond.code yX0_towards cX0_towards 2 (some (.object "SplayOrchard$Apple")), Cond.fieldLink RX0 7 "SplayOrchard$Apple" "size" "I", Cond.fieldLink RX0 17 "SplayOrchard$Apple" "left" "LSplayOrchard$Apple;", Cond.fieldLink RX0 23 "SplayOrchard$Apple" "right" "LSplayOrchard$Apple;", Cond.methodLink RX2 105 yX2_sizeOrNone, Cond.static yX2_sizeOrNone, Cond.code yX2_sizeOrNone cX2_sizeOrNone 1 (some .int), Cond.fieldLink RX2 130 "SplayOrchard$Apple" "size" "I"]
def wsX2_rightOf : List Cond := .code yX2_rightOf cX2_rightOf 3 (some .int) :: ((wsX2_rightOf_r1 ++ wsX2_rightOf_r2) ++ wsX00 ++ wsX20 ++ wsX10 ++ (vx_atS RX2 129 "java/lang/IndexOutOfBoundsException" ["java/lang/RuntimeException", "java/lang/Exception"]).filter goodWord ++ (vx_atS RX2 36 "java/lang/IllegalStateException" ["java/lang/RuntimeException", "java/lang/Exception"]).filter goodWord)
def wsX2_below_r1 : List Cond := [Cond.methodLink RX2 20 yX2_treeOf, Cond.instanceMethod yX2_treeOf, Cond.selects RX2 yX2_treeOf yX2_treeOf, Cond.initialized RX2, Cond.code yX2_treeOf cX2_treeOf 2 (some (.object "SplayOrchard$Tree")), Cond.classLink RX2 125 "java/lang/IndexOutOfBoundsException", Cond.initialized "java/lang/IndexOutOfBoundsException", Cond.fieldLink RX2 11 "SplayOrchard" "rows" "[LSplayOrchard$Tree;", Cond.methodLink RX2 58 yX2_appleOf, Cond.static yX2_appleOf, Cond.code yX2_appleOf cX2_appleOf 3 (some (.object "SplayOrchard$Apple")), Cond.classLink RX2 32 "java/lang/IllegalStateException", Cond.initialized "java/lang/IllegalStateException", Cond.methodLink RX2 39 yX1_find, Cond.instanceMethod yX1_find, Cond.selects RX1 yX1_find yX1_find, Cond.initialized RX1, Cond.code yX1_find cX1_find 3 (some (.object "SplayOrchard$Apple")), Cond.fieldLink RX1 32 "SplayOrchard$Apple" "size" "I", Cond.methodLink RX1 29 yX1_nearest, Cond.instanceMethod yX1_nearest, Cond.selects RX1 yX1_nearest yX1_nearest, Cond.code yX1_nearest cX1_nearest 4 (some (.object "SplayOrchard$Apple")), Cond.fieldLink RX1 7 "SplayOrchard$Tree" "top" "LSplayOrchard$Apple;"]
def wsX2_below_r2 : List Cond := [Cond.methodLink RX1 25 yX0_towards, Cond.instanceMethod yX0_towards, Cond.selects RX0 yX0_towards yX0_towards, Cond.initialized RX0, Cond.code yX0_towards cX0_towards 2 (some (.object "SplayOrchard$Apple")), Cond.fieldLink RX0 7 "SplayOrchard$Apple" "size" "I", Cond.fieldLink RX0 17 "SplayOrchard$Apple" "left" "LSplayOrchard$Apple;", Cond.fieldLink RX0 23 "SplayOrchard$Apple" "right" "LSplayOrchard$Apple;", Cond.methodLink RX2 146 yX0_countUnder, Cond.instanceMethod yX0_countUnder, Cond.selects RX0 yX0_countUnder yX0_countUnder, Cond.code yX0_countUnder cX0_countUnder 4 (some .int), Cond.methodLink RX0 41 yX0_greatestUnder, Cond.instanceMethod yX0_greatestUnder, Cond.selects RX0 yX0_greatestUnder yX0_greatestUnder, Cond.code yX0_greatestUnder cX0_greatestUnder 2 (some (.object "SplayOrchard$Apple")), Cond.methodLink RX0 37 yX0_leastUnder, Cond.instanceMethod yX0_leastUnder, Cond.selects RX0 yX0_leastUnder yX0_leastUnder, Cond.code yX0_leastUnder cX0_leastUnder 2 (some (.object "SplayOrchard$Apple")), Cond.methodLink RX0 44 yX0_next, Cond.instanceMethod yX0_next, Cond.selects RX0 yX0_next yX0_next, Cond.code yX0_next cX0_next 2 (some (.object "SplayOrchard$Apple"))]
def wsX2_below_r3 : List Cond := [Cond.fieldLink RX0 20 "SplayOrchard$Apple" "up" "LSplayOrchard$Apple;"]
def wsX2_below : List Cond := .code yX2_below cX2_below 3 (some .int) :: ((wsX2_below_r1 ++ (wsX2_below_r2 ++ wsX2_below_r3)) ++ wsX20 ++ wsX00 ++ wsX10 ++ (vx_atS RX2 129 "java/lang/IndexOutOfBoundsException" ["java/lang/RuntimeException", "java/lang/Exception"]).filter goodWord ++ (vx_atS RX2 36 "java/lang/IllegalStateException" ["java/lang/RuntimeException", "java/lang/Exception"]).filter goodWord)
def wsX2_eaten_r1 : List Cond := [Cond.fieldLink RX2 62 "SplayOrchard$Apple" "bites" "I", Cond.methodLink RX2 20 yX2_treeOf, Cond.instanceMethod yX2_treeOf, Cond.selects RX2 yX2_treeOf yX2_treeOf, Cond.initialized RX2, Cond.code yX2_treeOf cX2_treeOf 2 (some (.object "SplayOrchard$Tree")), Cond.classLink RX2 125 "java/lang/IndexOutOfBoundsException", Cond.initialized "java/lang/IndexOutOfBoundsException", Cond.fieldLink RX2 11 "SplayOrchard" "rows" "[LSplayOrchard$Tree;", Cond.methodLink RX2 58 yX2_appleOf, Cond.static yX2_appleOf, Cond.code yX2_appleOf cX2_appleOf 3 (some (.object "SplayOrchard$Apple")), Cond.classLink RX2 32 "java/lang/IllegalStateException", Cond.initialized "java/lang/IllegalStateException", Cond.methodLink RX2 39 yX1_find, Cond.instanceMethod yX1_find, Cond.selects RX1 yX1_find yX1_find, Cond.initialized RX1, Cond.code yX1_find cX1_find 3 (some (.object "SplayOrchard$Apple")), Cond.fieldLink RX1 32 "SplayOrchard$Apple" "size" "I", Cond.methodLink RX1 29 yX1_nearest, Cond.instanceMethod yX1_nearest, Cond.selects RX1 yX1_nearest yX1_nearest, Cond.code yX1_nearest cX1_nearest 4 (some (.object "SplayOrchard$Apple"))]
def wsX2_eaten_r2 : List Cond := [Cond.fieldLink RX1 7 "SplayOrchard$Tree" "top" "LSplayOrchard$Apple;", Cond.methodLink RX1 25 yX0_towards, Cond.instanceMethod yX0_towards, Cond.selects RX0 yX0_towards yX0_towards, Cond.initialized RX0, Cond.code yX0_towards cX0_towards 2 (some (.object "SplayOrchard$Apple")), Cond.fieldLink RX0 7 "SplayOrchard$Apple" "size" "I", Cond.fieldLink RX0 17 "SplayOrchard$Apple" "left" "LSplayOrchard$Apple;", Cond.fieldLink RX0 23 "SplayOrchard$Apple" "right" "LSplayOrchard$Apple;"]
def wsX2_eaten : List Cond := .code yX2_eaten cX2_eaten 3 (some .int) :: ((wsX2_eaten_r1 ++ wsX2_eaten_r2) ++ wsX00 ++ wsX20 ++ wsX10 ++ (vx_atS RX2 129 "java/lang/IndexOutOfBoundsException" ["java/lang/RuntimeException", "java/lang/Exception"]).filter goodWord ++ (vx_atS RX2 36 "java/lang/IllegalStateException" ["java/lang/RuntimeException", "java/lang/Exception"]).filter goodWord)
def wsX2_favourite_r1 : List Cond := [Cond.methodLink RX2 20 yX2_treeOf, Cond.instanceMethod yX2_treeOf, Cond.selects RX2 yX2_treeOf yX2_treeOf, Cond.initialized RX2, Cond.code yX2_treeOf cX2_treeOf 2 (some (.object "SplayOrchard$Tree")), Cond.classLink RX2 125 "java/lang/IndexOutOfBoundsException", Cond.initialized "java/lang/IndexOutOfBoundsException", Cond.fieldLink RX2 11 "SplayOrchard" "rows" "[LSplayOrchard$Tree;", Cond.methodLink RX2 149 yX1_mostBitten, Cond.instanceMethod yX1_mostBitten, Cond.selects RX1 yX1_mostBitten yX1_mostBitten, Cond.initialized RX1, Cond.code yX1_mostBitten cX1_mostBitten 3 (some (.object "SplayOrchard$Apple")), Cond.fieldLink RX1 78 "SplayOrchard$Apple" "bites" "I", Cond.methodLink RX1 57 yX1_first, Cond.instanceMethod yX1_first, Cond.selects RX1 yX1_first yX1_first, Cond.code yX1_first cX1_first 1 (some (.object "SplayOrchard$Apple")), Cond.fieldLink RX1 7 "SplayOrchard$Tree" "top" "LSplayOrchard$Apple;", Cond.methodLink RX1 18 yX0_leastUnder, Cond.instanceMethod yX0_leastUnder, Cond.selects RX0 yX0_leastUnder yX0_leastUnder, Cond.initialized RX0, Cond.code yX0_leastUnder cX0_leastUnder 2 (some (.object "SplayOrchard$Apple"))]
def wsX2_favourite_r2 : List Cond := [Cond.fieldLink RX0 17 "SplayOrchard$Apple" "left" "LSplayOrchard$Apple;", Cond.methodLink RX1 60 yX0_next, Cond.instanceMethod yX0_next, Cond.selects RX0 yX0_next yX0_next, Cond.code yX0_next cX0_next 2 (some (.object "SplayOrchard$Apple")), Cond.fieldLink RX0 23 "SplayOrchard$Apple" "right" "LSplayOrchard$Apple;", Cond.fieldLink RX0 20 "SplayOrchard$Apple" "up" "LSplayOrchard$Apple;", Cond.methodLink RX0 37 yX0_leastUnder, Cond.methodLink RX2 105 yX2_sizeOrNone, Cond.static yX2_sizeOrNone, Cond.code yX2_sizeOrNone cX2_sizeOrNone 1 (some .int), Cond.fieldLink RX2 130 "SplayOrchard$Apple" "size" "I"]
def wsX2_favourite : List Cond := .code yX2_favourite cX2_favourite 2 (some .int) :: ((wsX2_favourite_r1 ++ wsX2_favourite_r2) ++ wsX20 ++ wsX00 ++ wsX10 ++ (vx_atS RX2 129 "java/lang/IndexOutOfBoundsException" ["java/lang/RuntimeException", "java/lang/Exception"]).filter goodWord)
def wsX2_meet_r1 : List Cond := [Cond.methodLink RX2 20 yX2_treeOf, Cond.instanceMethod yX2_treeOf, Cond.selects RX2 yX2_treeOf yX2_treeOf, Cond.initialized RX2, Cond.code yX2_treeOf cX2_treeOf 2 (some (.object "SplayOrchard$Tree")), Cond.classLink RX2 125 "java/lang/IndexOutOfBoundsException", Cond.initialized "java/lang/IndexOutOfBoundsException", Cond.fieldLink RX2 11 "SplayOrchard" "rows" "[LSplayOrchard$Tree;", Cond.methodLink RX2 58 yX2_appleOf, Cond.static yX2_appleOf, Cond.code yX2_appleOf cX2_appleOf 3 (some (.object "SplayOrchard$Apple")), Cond.classLink RX2 32 "java/lang/IllegalStateException", Cond.initialized "java/lang/IllegalStateException", Cond.methodLink RX2 39 yX1_find, Cond.instanceMethod yX1_find, Cond.selects RX1 yX1_find yX1_find, Cond.initialized RX1, Cond.code yX1_find cX1_find 3 (some (.object "SplayOrchard$Apple")), Cond.fieldLink RX1 32 "SplayOrchard$Apple" "size" "I", Cond.methodLink RX1 29 yX1_nearest, Cond.instanceMethod yX1_nearest, Cond.selects RX1 yX1_nearest yX1_nearest, Cond.code yX1_nearest cX1_nearest 4 (some (.object "SplayOrchard$Apple")), Cond.fieldLink RX1 7 "SplayOrchard$Tree" "top" "LSplayOrchard$Apple;"]
def wsX2_meet_r2 : List Cond := [Cond.methodLink RX1 25 yX0_towards, Cond.instanceMethod yX0_towards, Cond.selects RX0 yX0_towards yX0_towards, Cond.initialized RX0, Cond.code yX0_towards cX0_towards 2 (some (.object "SplayOrchard$Apple")), Cond.fieldLink RX0 7 "SplayOrchard$Apple" "size" "I", Cond.fieldLink RX0 17 "SplayOrchard$Apple" "left" "LSplayOrchard$Apple;", Cond.fieldLink RX0 23 "SplayOrchard$Apple" "right" "LSplayOrchard$Apple;", Cond.methodLink RX2 152 yX1_meeting, Cond.instanceMethod yX1_meeting, Cond.selects RX1 yX1_meeting yX1_meeting, Cond.code yX1_meeting cX1_meeting 6 (some (.object "SplayOrchard$Apple")), Cond.methodLink RX1 81 Lib.Math.min.name, Cond.static Lib.Math.min.name, Cond.initialized "java/lang/Math", Cond.code Lib.Math.min.name Lib.Math.min.code 2 (some .int), Cond.methodLink RX1 66 Lib.Math.max.name, Cond.static Lib.Math.max.name, Cond.code Lib.Math.max.name Lib.Math.max.code 2 (some .int), Cond.methodLink RX2 105 yX2_sizeOrNone, Cond.static yX2_sizeOrNone, Cond.code yX2_sizeOrNone cX2_sizeOrNone 1 (some .int), Cond.fieldLink RX2 130 "SplayOrchard$Apple" "size" "I"]
def wsX2_meet : List Cond := .code yX2_meet cX2_meet 7 (some .int) :: ((wsX2_meet_r1 ++ wsX2_meet_r2) ++ wsX20 ++ wsX00 ++ wsX10 ++ (vx_atS RX2 129 "java/lang/IndexOutOfBoundsException" ["java/lang/RuntimeException", "java/lang/Exception"]).filter goodWord ++ (vx_atS RX2 36 "java/lang/IllegalStateException" ["java/lang/RuntimeException", "java/lang/Exception"]).filter goodWord)
def wsX2_tryEating_r1 : List Cond := [Cond.fieldLink RX2 16 "SplayOrchard" "trial" "LSplayOrchard$Tree;", Cond.fieldLink RX2 221 "SplayOrchard$Apple" "standIn" "LSplayOrchard$Apple;", Cond.methodLink RX2 217 yX1_standInFor, Cond.instanceMethod yX1_standInFor, Cond.selects RX1 yX1_standInFor yX1_standInFor, Cond.initialized RX1, Cond.code yX1_standInFor cX1_standInFor 3 none, Cond.fieldLink RX1 7 "SplayOrchard$Tree" "top" "LSplayOrchard$Apple;", Cond.methodLink RX1 57 yX1_first, Cond.instanceMethod yX1_first, Cond.selects RX1 yX1_first yX1_first, Cond.code yX1_first cX1_first 1 (some (.object "SplayOrchard$Apple")), Cond.methodLink RX1 18 yX0_leastUnder, Cond.instanceMethod yX0_leastUnder, Cond.selects RX0 yX0_leastUnder yX0_leastUnder, Cond.initialized RX0, Cond.code yX0_leastUnder cX0_leastUnder 2 (some (.object "SplayOrchard$Apple")), Cond.fieldLink RX0 17 "SplayOrchard$Apple" "left" "LSplayOrchard$Apple;", Cond.methodLink RX1 84 yX0_linkStandIn, Cond.instanceMethod yX0_linkStandIn, Cond.selects RX0 yX0_linkStandIn yX0_linkStandIn, Cond.code yX0_linkStandIn cX0_linkStandIn 1 none, Cond.fieldLink RX0 13 "SplayOrchard$Apple" "standIn" "LSplayOrchard$Apple;", Cond.fieldLink RX0 20 "SplayOrchard$Apple" "up" "LSplayOrchard$Apple;"]
def wsX2_tryEating_r2 : List Cond := [Cond.fieldLink RX0 23 "SplayOrchard$Apple" "right" "LSplayOrchard$Apple;", Cond.methodLink RX0 47 yX0_standInOf, Cond.static yX0_standInOf, Cond.code yX0_standInOf cX0_standInOf 1 (some (.object "SplayOrchard$Apple")), Cond.methodLink RX1 60 yX0_next, Cond.instanceMethod yX0_next, Cond.selects RX0 yX0_next yX0_next, Cond.code yX0_next cX0_next 2 (some (.object "SplayOrchard$Apple")), Cond.methodLink RX0 37 yX0_leastUnder, Cond.methodLink RX1 87 yX0_standInOf, Cond.methodLink RX2 215 yX1_bringUp, Cond.instanceMethod yX1_bringUp, Cond.selects RX1 yX1_bringUp yX1_bringUp, Cond.code yX1_bringUp cX1_bringUp 6 (some .int), Cond.fieldLink RX1 13 "SplayOrchard$Apple" "up" "LSplayOrchard$Apple;", Cond.methodLink RX1 46 yX0_depth, Cond.instanceMethod yX0_depth, Cond.selects RX0 yX0_depth yX0_depth, Cond.code yX0_depth cX0_depth 3 (some .int), Cond.methodLink RX1 50 yX0_isOnTheLeft, Cond.instanceMethod yX0_isOnTheLeft, Cond.selects RX0 yX0_isOnTheLeft yX0_isOnTheLeft, Cond.code yX0_isOnTheLeft cX0_isOnTheLeft 1 (some .boolean), Cond.methodLink RX1 54 yX0_turn]
def wsX2_tryEating_r3 : List Cond := [Cond.instanceMethod yX0_turn, Cond.selects RX0 yX0_turn yX0_turn, Cond.code yX0_turn cX0_turn 4 none, Cond.methodLink RX0 26 yX0_isOnTheLeft, Cond.methodLink RX0 30 yX0_hangLeft, Cond.instanceMethod yX0_hangLeft, Cond.selects RX0 yX0_hangLeft yX0_hangLeft, Cond.code yX0_hangLeft cX0_hangLeft 2 none, Cond.methodLink RX0 34 yX0_hangRight, Cond.instanceMethod yX0_hangRight, Cond.selects RX0 yX0_hangRight yX0_hangRight, Cond.code yX0_hangRight cX0_hangRight 2 none]
def wsX2_tryEating : List Cond := .code yX2_tryEating cX2_tryEating 4 none :: ((wsX2_tryEating_r1 ++ (wsX2_tryEating_r2 ++ wsX2_tryEating_r3)) ++ wsX20 ++ wsX00 ++ wsX10)
def wsX2_depthBehind_r1 : List Cond := [Cond.fieldLink RX2 16 "SplayOrchard" "trial" "LSplayOrchard$Tree;", Cond.methodLink RX2 20 yX2_treeOf, Cond.instanceMethod yX2_treeOf, Cond.selects RX2 yX2_treeOf yX2_treeOf, Cond.initialized RX2, Cond.code yX2_treeOf cX2_treeOf 2 (some (.object "SplayOrchard$Tree")), Cond.classLink RX2 125 "java/lang/IndexOutOfBoundsException", Cond.initialized "java/lang/IndexOutOfBoundsException", Cond.fieldLink RX2 11 "SplayOrchard" "rows" "[LSplayOrchard$Tree;", Cond.methodLink RX2 58 yX2_appleOf, Cond.static yX2_appleOf, Cond.code yX2_appleOf cX2_appleOf 3 (some (.object "SplayOrchard$Apple")), Cond.classLink RX2 32 "java/lang/IllegalStateException", Cond.initialized "java/lang/IllegalStateException", Cond.methodLink RX2 39 yX1_find, Cond.instanceMethod yX1_find, Cond.selects RX1 yX1_find yX1_find, Cond.initialized RX1, Cond.code yX1_find cX1_find 3 (some (.object "SplayOrchard$Apple")), Cond.fieldLink RX1 32 "SplayOrchard$Apple" "size" "I", Cond.methodLink RX1 29 yX1_nearest, Cond.instanceMethod yX1_nearest, Cond.selects RX1 yX1_nearest yX1_nearest, Cond.code yX1_nearest cX1_nearest 4 (some (.object "SplayOrchard$Apple"))]
def wsX2_depthBehind_r2 : List Cond := [Cond.fieldLink RX1 7 "SplayOrchard$Tree" "top" "LSplayOrchard$Apple;", Cond.methodLink RX1 25 yX0_towards, Cond.instanceMethod yX0_towards, Cond.selects RX0 yX0_towards yX0_towards, Cond.initialized RX0, Cond.code yX0_towards cX0_towards 2 (some (.object "SplayOrchard$Apple")), Cond.fieldLink RX0 7 "SplayOrchard$Apple" "size" "I", Cond.fieldLink RX0 17 "SplayOrchard$Apple" "left" "LSplayOrchard$Apple;", Cond.fieldLink RX0 23 "SplayOrchard$Apple" "right" "LSplayOrchard$Apple;", Cond.methodLink RX2 156 yX2_tryEating, Cond.instanceMethod yX2_tryEating, Cond.selects RX2 yX2_tryEating yX2_tryEating, Cond.code yX2_tryEating cX2_tryEating 4 none, Cond.fieldLink RX2 221 "SplayOrchard$Apple" "standIn" "LSplayOrchard$Apple;", Cond.methodLink RX2 217 yX1_standInFor, Cond.instanceMethod yX1_standInFor, Cond.selects RX1 yX1_standInFor yX1_standInFor, Cond.code yX1_standInFor cX1_standInFor 3 none, Cond.methodLink RX1 57 yX1_first, Cond.instanceMethod yX1_first, Cond.selects RX1 yX1_first yX1_first, Cond.code yX1_first cX1_first 1 (some (.object "SplayOrchard$Apple")), Cond.methodLink RX1 18 yX0_leastUnder, Cond.instanceMethod yX0_leastUnder]
def wsX2_depthBehind_r3 : List Cond := [Cond.selects RX0 yX0_leastUnder yX0_leastUnder, Cond.code yX0_leastUnder cX0_leastUnder 2 (some (.object "SplayOrchard$Apple")), Cond.methodLink RX1 84 yX0_linkStandIn, Cond.instanceMethod yX0_linkStandIn, Cond.selects RX0 yX0_linkStandIn yX0_linkStandIn, Cond.code yX0_linkStandIn cX0_linkStandIn 1 none, Cond.fieldLink RX0 13 "SplayOrchard$Apple" "standIn" "LSplayOrchard$Apple;", Cond.fieldLink RX0 20 "SplayOrchard$Apple" "up" "LSplayOrchard$Apple;", Cond.methodLink RX0 47 yX0_standInOf, Cond.static yX0_standInOf, Cond.code yX0_standInOf cX0_standInOf 1 (some (.object "SplayOrchard$Apple")), Cond.methodLink RX1 60 yX0_next, Cond.instanceMethod yX0_next, Cond.selects RX0 yX0_next yX0_next, Cond.code yX0_next cX0_next 2 (some (.object "SplayOrchard$Apple")), Cond.methodLink RX0 37 yX0_leastUnder, Cond.methodLink RX1 87 yX0_standInOf, Cond.methodLink RX2 215 yX1_bringUp, Cond.instanceMethod yX1_bringUp, Cond.selects RX1 yX1_bringUp yX1_bringUp, Cond.code yX1_bringUp cX1_bringUp 6 (some .int), Cond.fieldLink RX1 13 "SplayOrchard$Apple" "up" "LSplayOrchard$Apple;", Cond.methodLink RX1 46 yX0_depth, Cond.instanceMethod yX0_depth]
def wsX2_depthBehind_r4 : List Cond := [Cond.selects RX0 yX0_depth yX0_depth, Cond.code yX0_depth cX0_depth 3 (some .int), Cond.methodLink RX1 50 yX0_isOnTheLeft, Cond.instanceMethod yX0_isOnTheLeft, Cond.selects RX0 yX0_isOnTheLeft yX0_isOnTheLeft, Cond.code yX0_isOnTheLeft cX0_isOnTheLeft 1 (some .boolean), Cond.methodLink RX1 54 yX0_turn, Cond.instanceMethod yX0_turn, Cond.selects RX0 yX0_turn yX0_turn, Cond.code yX0_turn cX0_turn 4 none, Cond.methodLink RX0 26 yX0_isOnTheLeft, Cond.methodLink RX0 30 yX0_hangLeft, Cond.instanceMethod yX0_hangLeft, Cond.selects RX0 yX0_hangLeft yX0_hangLeft, Cond.code yX0_hangLeft cX0_hangLeft 2 none, Cond.methodLink RX0 34 yX0_hangRight, Cond.instanceMethod yX0_hangRight, Cond.selects RX0 yX0_hangRight yX0_hangRight, Cond.code yX0_hangRight cX0_hangRight 2 none, Cond.methodLink RX2 140 yX0_depth]
def wsX2_depthBehind : List Cond := .code yX2_depthBehind cX2_depthBehind 5 (some .int) :: ((wsX2_depthBehind_r1 ++ (wsX2_depthBehind_r2 ++ (wsX2_depthBehind_r3 ++ wsX2_depthBehind_r4))) ++ wsX20 ++ wsX00 ++ wsX10 ++ (vx_atS RX2 129 "java/lang/IndexOutOfBoundsException" ["java/lang/RuntimeException", "java/lang/Exception"]).filter goodWord ++ (vx_atS RX2 36 "java/lang/IllegalStateException" ["java/lang/RuntimeException", "java/lang/Exception"]).filter goodWord)
def wsX2_heightBehind_r1 : List Cond := [Cond.fieldLink RX2 16 "SplayOrchard" "trial" "LSplayOrchard$Tree;", Cond.methodLink RX2 20 yX2_treeOf, Cond.instanceMethod yX2_treeOf, Cond.selects RX2 yX2_treeOf yX2_treeOf, Cond.initialized RX2, Cond.code yX2_treeOf cX2_treeOf 2 (some (.object "SplayOrchard$Tree")), Cond.classLink RX2 125 "java/lang/IndexOutOfBoundsException", Cond.initialized "java/lang/IndexOutOfBoundsException", Cond.fieldLink RX2 11 "SplayOrchard" "rows" "[LSplayOrchard$Tree;", Cond.methodLink RX2 58 yX2_appleOf, Cond.static yX2_appleOf, Cond.code yX2_appleOf cX2_appleOf 3 (some (.object "SplayOrchard$Apple")), Cond.classLink RX2 32 "java/lang/IllegalStateException", Cond.initialized "java/lang/IllegalStateException", Cond.methodLink RX2 39 yX1_find, Cond.instanceMethod yX1_find, Cond.selects RX1 yX1_find yX1_find, Cond.initialized RX1, Cond.code yX1_find cX1_find 3 (some (.object "SplayOrchard$Apple")), Cond.fieldLink RX1 32 "SplayOrchard$Apple" "size" "I", Cond.methodLink RX1 29 yX1_nearest, Cond.instanceMethod yX1_nearest, Cond.selects RX1 yX1_nearest yX1_nearest, Cond.code yX1_nearest cX1_nearest 4 (some (.object "SplayOrchard$Apple"))]
def wsX2_heightBehind_r2 : List Cond := [Cond.fieldLink RX1 7 "SplayOrchard$Tree" "top" "LSplayOrchard$Apple;", Cond.methodLink RX1 25 yX0_towards, Cond.instanceMethod yX0_towards, Cond.selects RX0 yX0_towards yX0_towards, Cond.initialized RX0, Cond.code yX0_towards cX0_towards 2 (some (.object "SplayOrchard$Apple")), Cond.fieldLink RX0 7 "SplayOrchard$Apple" "size" "I", Cond.fieldLink RX0 17 "SplayOrchard$Apple" "left" "LSplayOrchard$Apple;", Cond.fieldLink RX0 23 "SplayOrchard$Apple" "right" "LSplayOrchard$Apple;", Cond.methodLink RX2 156 yX2_tryEating, Cond.instanceMethod yX2_tryEating, Cond.selects RX2 yX2_tryEating yX2_tryEating, Cond.code yX2_tryEating cX2_tryEating 4 none, Cond.fieldLink RX2 221 "SplayOrchard$Apple" "standIn" "LSplayOrchard$Apple;", Cond.methodLink RX2 217 yX1_standInFor, Cond.instanceMethod yX1_standInFor, Cond.selects RX1 yX1_standInFor yX1_standInFor, Cond.code yX1_standInFor cX1_standInFor 3 none, Cond.methodLink RX1 57 yX1_first, Cond.instanceMethod yX1_first, Cond.selects RX1 yX1_first yX1_first, Cond.code yX1_first cX1_first 1 (some (.object "SplayOrchard$Apple")), Cond.methodLink RX1 18 yX0_leastUnder, Cond.instanceMethod yX0_leastUnder]
def wsX2_heightBehind_r3 : List Cond := [Cond.selects RX0 yX0_leastUnder yX0_leastUnder, Cond.code yX0_leastUnder cX0_leastUnder 2 (some (.object "SplayOrchard$Apple")), Cond.methodLink RX1 84 yX0_linkStandIn, Cond.instanceMethod yX0_linkStandIn, Cond.selects RX0 yX0_linkStandIn yX0_linkStandIn, Cond.code yX0_linkStandIn cX0_linkStandIn 1 none, Cond.fieldLink RX0 13 "SplayOrchard$Apple" "standIn" "LSplayOrchard$Apple;", Cond.fieldLink RX0 20 "SplayOrchard$Apple" "up" "LSplayOrchard$Apple;", Cond.methodLink RX0 47 yX0_standInOf, Cond.static yX0_standInOf, Cond.code yX0_standInOf cX0_standInOf 1 (some (.object "SplayOrchard$Apple")), Cond.methodLink RX1 60 yX0_next, Cond.instanceMethod yX0_next, Cond.selects RX0 yX0_next yX0_next, Cond.code yX0_next cX0_next 2 (some (.object "SplayOrchard$Apple")), Cond.methodLink RX0 37 yX0_leastUnder, Cond.methodLink RX1 87 yX0_standInOf, Cond.methodLink RX2 215 yX1_bringUp, Cond.instanceMethod yX1_bringUp, Cond.selects RX1 yX1_bringUp yX1_bringUp, Cond.code yX1_bringUp cX1_bringUp 6 (some .int), Cond.fieldLink RX1 13 "SplayOrchard$Apple" "up" "LSplayOrchard$Apple;", Cond.methodLink RX1 46 yX0_depth, Cond.instanceMethod yX0_depth]
def wsX2_heightBehind_r4 : List Cond := [Cond.selects RX0 yX0_depth yX0_depth, Cond.code yX0_depth cX0_depth 3 (some .int), Cond.methodLink RX1 50 yX0_isOnTheLeft, Cond.instanceMethod yX0_isOnTheLeft, Cond.selects RX0 yX0_isOnTheLeft yX0_isOnTheLeft, Cond.code yX0_isOnTheLeft cX0_isOnTheLeft 1 (some .boolean), Cond.methodLink RX1 54 yX0_turn, Cond.instanceMethod yX0_turn, Cond.selects RX0 yX0_turn yX0_turn, Cond.code yX0_turn cX0_turn 4 none, Cond.methodLink RX0 26 yX0_isOnTheLeft, Cond.methodLink RX0 30 yX0_hangLeft, Cond.instanceMethod yX0_hangLeft, Cond.selects RX0 yX0_hangLeft yX0_hangLeft, Cond.code yX0_hangLeft cX0_hangLeft 2 none, Cond.methodLink RX0 34 yX0_hangRight, Cond.instanceMethod yX0_hangRight, Cond.selects RX0 yX0_hangRight yX0_hangRight, Cond.code yX0_hangRight cX0_hangRight 2 none, Cond.methodLink RX2 109 yX1_levels, Cond.instanceMethod yX1_levels, Cond.selects RX1 yX1_levels yX1_levels, Cond.code yX1_levels cX1_levels 3 (some .int), Cond.methodLink RX1 66 Lib.Math.max.name]
def wsX2_heightBehind_r5 : List Cond := [Cond.static Lib.Math.max.name, Cond.initialized "java/lang/Math", Cond.code Lib.Math.max.name Lib.Math.max.code 2 (some .int)]
def wsX2_heightBehind : List Cond := .code yX2_heightBehind cX2_heightBehind 4 (some .int) :: ((wsX2_heightBehind_r1 ++ (wsX2_heightBehind_r2 ++ (wsX2_heightBehind_r3 ++ (wsX2_heightBehind_r4 ++ wsX2_heightBehind_r5)))) ++ wsX20 ++ wsX00 ++ wsX10 ++ (vx_atS RX2 129 "java/lang/IndexOutOfBoundsException" ["java/lang/RuntimeException", "java/lang/Exception"]).filter goodWord ++ (vx_atS RX2 36 "java/lang/IllegalStateException" ["java/lang/RuntimeException", "java/lang/Exception"]).filter goodWord)
def wsX2_bestToEat_r1 : List Cond := [Cond.fieldLink RX2 16 "SplayOrchard" "trial" "LSplayOrchard$Tree;", Cond.methodLink RX2 20 yX2_treeOf, Cond.instanceMethod yX2_treeOf, Cond.selects RX2 yX2_treeOf yX2_treeOf, Cond.initialized RX2, Cond.code yX2_treeOf cX2_treeOf 2 (some (.object "SplayOrchard$Tree")), Cond.classLink RX2 125 "java/lang/IndexOutOfBoundsException", Cond.initialized "java/lang/IndexOutOfBoundsException", Cond.fieldLink RX2 11 "SplayOrchard" "rows" "[LSplayOrchard$Tree;", Cond.methodLink RX2 115 yX1_first, Cond.instanceMethod yX1_first, Cond.selects RX1 yX1_first yX1_first, Cond.initialized RX1, Cond.code yX1_first cX1_first 1 (some (.object "SplayOrchard$Apple")), Cond.fieldLink RX1 7 "SplayOrchard$Tree" "top" "LSplayOrchard$Apple;", Cond.methodLink RX1 18 yX0_leastUnder, Cond.instanceMethod yX0_leastUnder, Cond.selects RX0 yX0_leastUnder yX0_leastUnder, Cond.initialized RX0, Cond.code yX0_leastUnder cX0_leastUnder 2 (some (.object "SplayOrchard$Apple")), Cond.fieldLink RX0 17 "SplayOrchard$Apple" "left" "LSplayOrchard$Apple;", Cond.methodLink RX2 156 yX2_tryEating, Cond.instanceMethod yX2_tryEating, Cond.selects RX2 yX2_tryEating yX2_tryEating]
def wsX2_bestToEat_r2 : List Cond := [Cond.code yX2_tryEating cX2_tryEating 4 none, Cond.fieldLink RX2 221 "SplayOrchard$Apple" "standIn" "LSplayOrchard$Apple;", Cond.methodLink RX2 217 yX1_standInFor, Cond.instanceMethod yX1_standInFor, Cond.selects RX1 yX1_standInFor yX1_standInFor, Cond.code yX1_standInFor cX1_standInFor 3 none, Cond.methodLink RX1 57 yX1_first, Cond.methodLink RX1 84 yX0_linkStandIn, Cond.instanceMethod yX0_linkStandIn, Cond.selects RX0 yX0_linkStandIn yX0_linkStandIn, Cond.code yX0_linkStandIn cX0_linkStandIn 1 none, Cond.fieldLink RX0 13 "SplayOrchard$Apple" "standIn" "LSplayOrchard$Apple;", Cond.fieldLink RX0 20 "SplayOrchard$Apple" "up" "LSplayOrchard$Apple;", Cond.fieldLink RX0 23 "SplayOrchard$Apple" "right" "LSplayOrchard$Apple;", Cond.methodLink RX0 47 yX0_standInOf, Cond.static yX0_standInOf, Cond.code yX0_standInOf cX0_standInOf 1 (some (.object "SplayOrchard$Apple")), Cond.methodLink RX1 60 yX0_next, Cond.instanceMethod yX0_next, Cond.selects RX0 yX0_next yX0_next, Cond.code yX0_next cX0_next 2 (some (.object "SplayOrchard$Apple")), Cond.methodLink RX0 37 yX0_leastUnder, Cond.methodLink RX1 87 yX0_standInOf, Cond.methodLink RX2 215 yX1_bringUp]
def wsX2_bestToEat_r3 : List Cond := [Cond.instanceMethod yX1_bringUp, Cond.selects RX1 yX1_bringUp yX1_bringUp, Cond.code yX1_bringUp cX1_bringUp 6 (some .int), Cond.fieldLink RX1 13 "SplayOrchard$Apple" "up" "LSplayOrchard$Apple;", Cond.methodLink RX1 46 yX0_depth, Cond.instanceMethod yX0_depth, Cond.selects RX0 yX0_depth yX0_depth, Cond.code yX0_depth cX0_depth 3 (some .int), Cond.methodLink RX1 50 yX0_isOnTheLeft, Cond.instanceMethod yX0_isOnTheLeft, Cond.selects RX0 yX0_isOnTheLeft yX0_isOnTheLeft, Cond.code yX0_isOnTheLeft cX0_isOnTheLeft 1 (some .boolean), Cond.methodLink RX1 54 yX0_turn, Cond.instanceMethod yX0_turn, Cond.selects RX0 yX0_turn yX0_turn, Cond.code yX0_turn cX0_turn 4 none, Cond.methodLink RX0 26 yX0_isOnTheLeft, Cond.methodLink RX0 30 yX0_hangLeft, Cond.instanceMethod yX0_hangLeft, Cond.selects RX0 yX0_hangLeft yX0_hangLeft, Cond.code yX0_hangLeft cX0_hangLeft 2 none, Cond.methodLink RX0 34 yX0_hangRight, Cond.instanceMethod yX0_hangRight, Cond.selects RX0 yX0_hangRight yX0_hangRight]
def wsX2_bestToEat_r4 : List Cond := [Cond.code yX0_hangRight cX0_hangRight 2 none, Cond.methodLink RX2 112 yX1_depthSum, Cond.instanceMethod yX1_depthSum, Cond.selects RX1 yX1_depthSum yX1_depthSum, Cond.code yX1_depthSum cX1_depthSum 3 (some .int), Cond.methodLink RX2 159 yX0_next, Cond.methodLink RX2 105 yX2_sizeOrNone, Cond.static yX2_sizeOrNone, Cond.code yX2_sizeOrNone cX2_sizeOrNone 1 (some .int), Cond.fieldLink RX2 130 "SplayOrchard$Apple" "size" "I"]
def wsX2_bestToEat : List Cond := .code yX2_bestToEat cX2_bestToEat 7 (some .int) :: ((wsX2_bestToEat_r1 ++ (wsX2_bestToEat_r2 ++ (wsX2_bestToEat_r3 ++ wsX2_bestToEat_r4))) ++ wsX20 ++ wsX10 ++ wsX00 ++ (vx_atS RX2 129 "java/lang/IndexOutOfBoundsException" ["java/lang/RuntimeException", "java/lang/Exception"]).filter goodWord)
def wsX2_plantDepth_r1 : List Cond := [Cond.fieldLink RX2 130 "SplayOrchard$Apple" "size" "I", Cond.methodLink RX2 20 yX2_treeOf, Cond.instanceMethod yX2_treeOf, Cond.selects RX2 yX2_treeOf yX2_treeOf, Cond.initialized RX2, Cond.code yX2_treeOf cX2_treeOf 2 (some (.object "SplayOrchard$Tree")), Cond.classLink RX2 125 "java/lang/IndexOutOfBoundsException", Cond.initialized "java/lang/IndexOutOfBoundsException", Cond.fieldLink RX2 11 "SplayOrchard" "rows" "[LSplayOrchard$Tree;", Cond.methodLink RX2 24 yX2_checkSize, Cond.static yX2_checkSize, Cond.code yX2_checkSize cX2_checkSize 1 none, Cond.classLink RX2 208 "java/lang/IllegalArgumentException", Cond.initialized "java/lang/IllegalArgumentException", Cond.methodLink RX2 162 yX1_nearest, Cond.instanceMethod yX1_nearest, Cond.selects RX1 yX1_nearest yX1_nearest, Cond.initialized RX1, Cond.code yX1_nearest cX1_nearest 4 (some (.object "SplayOrchard$Apple")), Cond.fieldLink RX1 7 "SplayOrchard$Tree" "top" "LSplayOrchard$Apple;", Cond.methodLink RX1 25 yX0_towards, Cond.instanceMethod yX0_towards, Cond.selects RX0 yX0_towards yX0_towards, Cond.initialized RX0]
def wsX2_plantDepth_r2 : List Cond := [Cond.code yX0_towards cX0_towards 2 (some (.object "SplayOrchard$Apple")), Cond.fieldLink RX0 7 "SplayOrchard$Apple" "size" "I", Cond.fieldLink RX0 17 "SplayOrchard$Apple" "left" "LSplayOrchard$Apple;", Cond.fieldLink RX0 23 "SplayOrchard$Apple" "right" "LSplayOrchard$Apple;", Cond.methodLink RX2 140 yX0_depth, Cond.instanceMethod yX0_depth, Cond.selects RX0 yX0_depth yX0_depth, Cond.code yX0_depth cX0_depth 3 (some .int), Cond.fieldLink RX0 20 "SplayOrchard$Apple" "up" "LSplayOrchard$Apple;"]
def wsX2_plantDepth : List Cond := .code yX2_plantDepth cX2_plantDepth 5 (some .int) :: ((wsX2_plantDepth_r1 ++ wsX2_plantDepth_r2) ++ wsX00 ++ wsX20 ++ wsX10 ++ (vx_atS RX2 129 "java/lang/IndexOutOfBoundsException" ["java/lang/RuntimeException", "java/lang/Exception"]).filter goodWord ++ (vx_atS RX2 212 "java/lang/IllegalArgumentException" ["java/lang/RuntimeException", "java/lang/Exception"]).filter goodWord)
def wsX2_canJoin_r1 : List Cond := [Cond.methodLink RX2 20 yX2_treeOf, Cond.instanceMethod yX2_treeOf, Cond.selects RX2 yX2_treeOf yX2_treeOf, Cond.initialized RX2, Cond.code yX2_treeOf cX2_treeOf 2 (some (.object "SplayOrchard$Tree")), Cond.classLink RX2 125 "java/lang/IndexOutOfBoundsException", Cond.initialized "java/lang/IndexOutOfBoundsException", Cond.fieldLink RX2 11 "SplayOrchard" "rows" "[LSplayOrchard$Tree;", Cond.methodLink RX2 96 yX2_mayJoin, Cond.static yX2_mayJoin, Cond.code yX2_mayJoin cX2_mayJoin 4 (some .boolean), Cond.fieldLink RX2 130 "SplayOrchard$Apple" "size" "I", Cond.methodLink RX2 119 yX1_last, Cond.instanceMethod yX1_last, Cond.selects RX1 yX1_last yX1_last, Cond.initialized RX1, Cond.code yX1_last cX1_last 1 (some (.object "SplayOrchard$Apple")), Cond.fieldLink RX1 7 "SplayOrchard$Tree" "top" "LSplayOrchard$Apple;", Cond.methodLink RX1 22 yX0_greatestUnder, Cond.instanceMethod yX0_greatestUnder, Cond.selects RX0 yX0_greatestUnder yX0_greatestUnder, Cond.initialized RX0, Cond.code yX0_greatestUnder cX0_greatestUnder 2 (some (.object "SplayOrchard$Apple")), Cond.fieldLink RX0 23 "SplayOrchard$Apple" "right" "LSplayOrchard$Apple;"]
def wsX2_canJoin_r2 : List Cond := [Cond.methodLink RX2 115 yX1_first, Cond.instanceMethod yX1_first, Cond.selects RX1 yX1_first yX1_first, Cond.code yX1_first cX1_first 1 (some (.object "SplayOrchard$Apple")), Cond.methodLink RX1 18 yX0_leastUnder, Cond.instanceMethod yX0_leastUnder, Cond.selects RX0 yX0_leastUnder yX0_leastUnder, Cond.code yX0_leastUnder cX0_leastUnder 2 (some (.object "SplayOrchard$Apple")), Cond.fieldLink RX0 17 "SplayOrchard$Apple" "left" "LSplayOrchard$Apple;"]
def wsX2_canJoin : List Cond := .code yX2_canJoin cX2_canJoin 3 (some .boolean) :: ((wsX2_canJoin_r1 ++ wsX2_canJoin_r2) ++ wsX20 ++ wsX00 ++ wsX10 ++ (vx_atS RX2 129 "java/lang/IndexOutOfBoundsException" ["java/lang/RuntimeException", "java/lang/Exception"]).filter goodWord)
def wsX2_meanDepth_r1 : List Cond := [Cond.methodLink RX2 20 yX2_treeOf, Cond.instanceMethod yX2_treeOf, Cond.selects RX2 yX2_treeOf yX2_treeOf, Cond.initialized RX2, Cond.code yX2_treeOf cX2_treeOf 2 (some (.object "SplayOrchard$Tree")), Cond.classLink RX2 125 "java/lang/IndexOutOfBoundsException", Cond.initialized "java/lang/IndexOutOfBoundsException", Cond.fieldLink RX2 11 "SplayOrchard" "rows" "[LSplayOrchard$Tree;", Cond.methodLink RX2 93 yX1_count, Cond.instanceMethod yX1_count, Cond.selects RX1 yX1_count yX1_count, Cond.initialized RX1, Cond.code yX1_count cX1_count 1 (some .int), Cond.fieldLink RX1 7 "SplayOrchard$Tree" "top" "LSplayOrchard$Apple;", Cond.methodLink RX1 63 yX0_countUnder, Cond.instanceMethod yX0_countUnder, Cond.selects RX0 yX0_countUnder yX0_countUnder, Cond.initialized RX0, Cond.code yX0_countUnder cX0_countUnder 4 (some .int), Cond.methodLink RX0 41 yX0_greatestUnder, Cond.instanceMethod yX0_greatestUnder, Cond.selects RX0 yX0_greatestUnder yX0_greatestUnder, Cond.code yX0_greatestUnder cX0_greatestUnder 2 (some (.object "SplayOrchard$Apple")), Cond.fieldLink RX0 23 "SplayOrchard$Apple" "right" "LSplayOrchard$Apple;"]
def wsX2_meanDepth_r2 : List Cond := [Cond.methodLink RX0 37 yX0_leastUnder, Cond.instanceMethod yX0_leastUnder, Cond.selects RX0 yX0_leastUnder yX0_leastUnder, Cond.code yX0_leastUnder cX0_leastUnder 2 (some (.object "SplayOrchard$Apple")), Cond.fieldLink RX0 17 "SplayOrchard$Apple" "left" "LSplayOrchard$Apple;", Cond.methodLink RX0 44 yX0_next, Cond.instanceMethod yX0_next, Cond.selects RX0 yX0_next yX0_next, Cond.code yX0_next cX0_next 2 (some (.object "SplayOrchard$Apple")), Cond.fieldLink RX0 20 "SplayOrchard$Apple" "up" "LSplayOrchard$Apple;", Cond.methodLink RX2 112 yX1_depthSum, Cond.instanceMethod yX1_depthSum, Cond.selects RX1 yX1_depthSum yX1_depthSum, Cond.code yX1_depthSum cX1_depthSum 3 (some .int), Cond.methodLink RX1 57 yX1_first, Cond.instanceMethod yX1_first, Cond.selects RX1 yX1_first yX1_first, Cond.code yX1_first cX1_first 1 (some (.object "SplayOrchard$Apple")), Cond.methodLink RX1 18 yX0_leastUnder, Cond.methodLink RX1 46 yX0_depth, Cond.instanceMethod yX0_depth, Cond.selects RX0 yX0_depth yX0_depth, Cond.code yX0_depth cX0_depth 3 (some .int), Cond.methodLink RX1 60 yX0_next]
def wsX2_meanDepth : List Cond := .code yX2_meanDepth cX2_meanDepth 4 (some .double) :: ((wsX2_meanDepth_r1 ++ wsX2_meanDepth_r2) ++ wsX20 ++ wsX10 ++ wsX00 ++ (vx_atS RX2 129 "java/lang/IndexOutOfBoundsException" ["java/lang/RuntimeException", "java/lang/Exception"]).filter goodWord)
def wsX2_mix : List Cond := .code yX2_mix cX2_mix 3 (some .long) :: ([.constantLong RX2 204 (31)])
def wsX2_mixRow_r1 : List Cond := [Cond.methodLink RX2 181 yX2_sizeOf, Cond.instanceMethod yX2_sizeOf, Cond.selects RX2 yX2_sizeOf yX2_sizeOf, Cond.initialized RX2, Cond.code yX2_sizeOf cX2_sizeOf 2 (some .int), Cond.methodLink RX2 20 yX2_treeOf, Cond.instanceMethod yX2_treeOf, Cond.selects RX2 yX2_treeOf yX2_treeOf, Cond.code yX2_treeOf cX2_treeOf 2 (some (.object "SplayOrchard$Tree")), Cond.classLink RX2 125 "java/lang/IndexOutOfBoundsException", Cond.initialized "java/lang/IndexOutOfBoundsException", Cond.fieldLink RX2 11 "SplayOrchard" "rows" "[LSplayOrchard$Tree;", Cond.methodLink RX2 93 yX1_count, Cond.instanceMethod yX1_count, Cond.selects RX1 yX1_count yX1_count, Cond.initialized RX1, Cond.code yX1_count cX1_count 1 (some .int), Cond.fieldLink RX1 7 "SplayOrchard$Tree" "top" "LSplayOrchard$Apple;", Cond.methodLink RX1 63 yX0_countUnder, Cond.instanceMethod yX0_countUnder, Cond.selects RX0 yX0_countUnder yX0_countUnder, Cond.initialized RX0, Cond.code yX0_countUnder cX0_countUnder 4 (some .int), Cond.methodLink RX0 41 yX0_greatestUnder]
def wsX2_mixRow_r2 : List Cond := [Cond.instanceMethod yX0_greatestUnder, Cond.selects RX0 yX0_greatestUnder yX0_greatestUnder, Cond.code yX0_greatestUnder cX0_greatestUnder 2 (some (.object "SplayOrchard$Apple")), Cond.fieldLink RX0 23 "SplayOrchard$Apple" "right" "LSplayOrchard$Apple;", Cond.methodLink RX0 37 yX0_leastUnder, Cond.instanceMethod yX0_leastUnder, Cond.selects RX0 yX0_leastUnder yX0_leastUnder, Cond.code yX0_leastUnder cX0_leastUnder 2 (some (.object "SplayOrchard$Apple")), Cond.fieldLink RX0 17 "SplayOrchard$Apple" "left" "LSplayOrchard$Apple;", Cond.methodLink RX0 44 yX0_next, Cond.instanceMethod yX0_next, Cond.selects RX0 yX0_next yX0_next, Cond.code yX0_next cX0_next 2 (some (.object "SplayOrchard$Apple")), Cond.fieldLink RX0 20 "SplayOrchard$Apple" "up" "LSplayOrchard$Apple;", Cond.methodLink RX2 167 yX2_mix, Cond.static yX2_mix, Cond.code yX2_mix cX2_mix 3 (some .long), Cond.constantLong RX2 204 (31), Cond.methodLink RX2 184 yX2_top, Cond.instanceMethod yX2_top, Cond.selects RX2 yX2_top yX2_top, Cond.code yX2_top cX2_top 2 (some .int), Cond.fieldLink RX2 82 "SplayOrchard$Tree" "top" "LSplayOrchard$Apple;", Cond.methodLink RX2 105 yX2_sizeOrNone]
def wsX2_mixRow_r3 : List Cond := [Cond.static yX2_sizeOrNone, Cond.code yX2_sizeOrNone cX2_sizeOrNone 1 (some .int), Cond.fieldLink RX2 130 "SplayOrchard$Apple" "size" "I", Cond.methodLink RX2 186 yX2_height, Cond.instanceMethod yX2_height, Cond.selects RX2 yX2_height yX2_height, Cond.code yX2_height cX2_height 2 (some .int), Cond.methodLink RX2 109 yX1_levels, Cond.instanceMethod yX1_levels, Cond.selects RX1 yX1_levels yX1_levels, Cond.code yX1_levels cX1_levels 3 (some .int), Cond.methodLink RX1 66 Lib.Math.max.name, Cond.static Lib.Math.max.name, Cond.initialized "java/lang/Math", Cond.code Lib.Math.max.name Lib.Math.max.code 2 (some .int), Cond.methodLink RX1 57 yX1_first, Cond.instanceMethod yX1_first, Cond.selects RX1 yX1_first yX1_first, Cond.code yX1_first cX1_first 1 (some (.object "SplayOrchard$Apple")), Cond.methodLink RX1 18 yX0_leastUnder, Cond.methodLink RX1 46 yX0_depth, Cond.instanceMethod yX0_depth, Cond.selects RX0 yX0_depth yX0_depth, Cond.code yX0_depth cX0_depth 3 (some .int)]
def wsX2_mixRow_r4 : List Cond := [Cond.methodLink RX1 60 yX0_next, Cond.methodLink RX2 189 yX2_leastHeight, Cond.instanceMethod yX2_leastHeight, Cond.selects RX2 yX2_leastHeight yX2_leastHeight, Cond.code yX2_leastHeight cX2_leastHeight 5 (some .int), Cond.methodLink RX2 192 yX2_depths, Cond.instanceMethod yX2_depths, Cond.selects RX2 yX2_depths yX2_depths, Cond.code yX2_depths cX2_depths 2 (some .int), Cond.methodLink RX2 112 yX1_depthSum, Cond.instanceMethod yX1_depthSum, Cond.selects RX1 yX1_depthSum yX1_depthSum, Cond.code yX1_depthSum cX1_depthSum 3 (some .int), Cond.methodLink RX2 195 yX2_leaves, Cond.instanceMethod yX2_leaves, Cond.selects RX2 yX2_leaves yX2_leaves, Cond.code yX2_leaves cX2_leaves 2 (some .int), Cond.methodLink RX2 133 yX1_leafCount, Cond.instanceMethod yX1_leafCount, Cond.selects RX1 yX1_leafCount yX1_leafCount, Cond.code yX1_leafCount cX1_leafCount 3 (some .int), Cond.fieldLink RX1 72 "SplayOrchard$Apple" "left" "LSplayOrchard$Apple;", Cond.fieldLink RX1 75 "SplayOrchard$Apple" "right" "LSplayOrchard$Apple;", Cond.methodLink RX2 198 yX2_favourite]
def wsX2_mixRow_r5 : List Cond := [Cond.instanceMethod yX2_favourite, Cond.selects RX2 yX2_favourite yX2_favourite, Cond.code yX2_favourite cX2_favourite 2 (some .int), Cond.methodLink RX2 149 yX1_mostBitten, Cond.instanceMethod yX1_mostBitten, Cond.selects RX1 yX1_mostBitten yX1_mostBitten, Cond.code yX1_mostBitten cX1_mostBitten 3 (some (.object "SplayOrchard$Apple")), Cond.fieldLink RX1 78 "SplayOrchard$Apple" "bites" "I", Cond.methodLink RX2 201 yX2_bestToEat, Cond.instanceMethod yX2_bestToEat, Cond.selects RX2 yX2_bestToEat yX2_bestToEat, Cond.code yX2_bestToEat cX2_bestToEat 7 (some .int), Cond.fieldLink RX2 16 "SplayOrchard" "trial" "LSplayOrchard$Tree;", Cond.methodLink RX2 115 yX1_first, Cond.methodLink RX2 156 yX2_tryEating, Cond.instanceMethod yX2_tryEating, Cond.selects RX2 yX2_tryEating yX2_tryEating, Cond.code yX2_tryEating cX2_tryEating 4 none, Cond.fieldLink RX2 221 "SplayOrchard$Apple" "standIn" "LSplayOrchard$Apple;", Cond.methodLink RX2 217 yX1_standInFor, Cond.instanceMethod yX1_standInFor, Cond.selects RX1 yX1_standInFor yX1_standInFor, Cond.code yX1_standInFor cX1_standInFor 3 none, Cond.methodLink RX1 84 yX0_linkStandIn]
def wsX2_mixRow_r6 : List Cond := [Cond.instanceMethod yX0_linkStandIn, Cond.selects RX0 yX0_linkStandIn yX0_linkStandIn, Cond.code yX0_linkStandIn cX0_linkStandIn 1 none, Cond.fieldLink RX0 13 "SplayOrchard$Apple" "standIn" "LSplayOrchard$Apple;", Cond.methodLink RX0 47 yX0_standInOf, Cond.static yX0_standInOf, Cond.code yX0_standInOf cX0_standInOf 1 (some (.object "SplayOrchard$Apple")), Cond.methodLink RX1 87 yX0_standInOf, Cond.methodLink RX2 215 yX1_bringUp, Cond.instanceMethod yX1_bringUp, Cond.selects RX1 yX1_bringUp yX1_bringUp, Cond.code yX1_bringUp cX1_bringUp 6 (some .int), Cond.fieldLink RX1 13 "SplayOrchard$Apple" "up" "LSplayOrchard$Apple;", Cond.methodLink RX1 50 yX0_isOnTheLeft, Cond.instanceMethod yX0_isOnTheLeft, Cond.selects RX0 yX0_isOnTheLeft yX0_isOnTheLeft, Cond.code yX0_isOnTheLeft cX0_isOnTheLeft 1 (some .boolean), Cond.methodLink RX1 54 yX0_turn, Cond.instanceMethod yX0_turn, Cond.selects RX0 yX0_turn yX0_turn, Cond.code yX0_turn cX0_turn 4 none, Cond.methodLink RX0 26 yX0_isOnTheLeft, Cond.methodLink RX0 30 yX0_hangLeft, Cond.instanceMethod yX0_hangLeft]
def wsX2_mixRow_r7 : List Cond := [Cond.selects RX0 yX0_hangLeft yX0_hangLeft, Cond.code yX0_hangLeft cX0_hangLeft 2 none, Cond.methodLink RX0 34 yX0_hangRight, Cond.instanceMethod yX0_hangRight, Cond.selects RX0 yX0_hangRight yX0_hangRight, Cond.code yX0_hangRight cX0_hangRight 2 none, Cond.methodLink RX2 159 yX0_next]
def wsX2_mixRow : List Cond := .code yX2_mixRow cX2_mixRow 6 (some .long) :: ((wsX2_mixRow_r1 ++ (wsX2_mixRow_r2 ++ (wsX2_mixRow_r3 ++ (wsX2_mixRow_r4 ++ (wsX2_mixRow_r5 ++ (wsX2_mixRow_r6 ++ wsX2_mixRow_r7)))))) ++ wsX20 ++ wsX10 ++ wsX00 ++ (vx_atS RX2 129 "java/lang/IndexOutOfBoundsException" ["java/lang/RuntimeException", "java/lang/Exception"]).filter goodWord)
def wsX2_mixApple_r1 : List Cond := [Cond.fieldLink RX2 130 "SplayOrchard$Apple" "size" "I", Cond.fieldLink RX2 143 "SplayOrchard$Apple" "up" "LSplayOrchard$Apple;", Cond.fieldLink RX2 66 "SplayOrchard$Apple" "left" "LSplayOrchard$Apple;", Cond.fieldLink RX2 73 "SplayOrchard$Apple" "right" "LSplayOrchard$Apple;", Cond.fieldLink RX2 62 "SplayOrchard$Apple" "bites" "I", Cond.methodLink RX2 167 yX2_mix, Cond.static yX2_mix, Cond.initialized RX2, Cond.code yX2_mix cX2_mix 3 (some .long), Cond.constantLong RX2 204 (31), Cond.methodLink RX2 140 yX0_depth, Cond.instanceMethod yX0_depth, Cond.selects RX0 yX0_depth yX0_depth, Cond.initialized RX0, Cond.code yX0_depth cX0_depth 3 (some .int), Cond.fieldLink RX0 20 "SplayOrchard$Apple" "up" "LSplayOrchard$Apple;", Cond.methodLink RX2 105 yX2_sizeOrNone, Cond.static yX2_sizeOrNone, Cond.code yX2_sizeOrNone cX2_sizeOrNone 1 (some .int), Cond.methodLink RX2 146 yX0_countUnder, Cond.instanceMethod yX0_countUnder, Cond.selects RX0 yX0_countUnder yX0_countUnder, Cond.code yX0_countUnder cX0_countUnder 4 (some .int), Cond.methodLink RX0 41 yX0_greatestUnder]
def wsX2_mixApple_r2 : List Cond := [Cond.instanceMethod yX0_greatestUnder, Cond.selects RX0 yX0_greatestUnder yX0_greatestUnder, Cond.code yX0_greatestUnder cX0_greatestUnder 2 (some (.object "SplayOrchard$Apple")), Cond.fieldLink RX0 23 "SplayOrchard$Apple" "right" "LSplayOrchard$Apple;", Cond.methodLink RX0 37 yX0_leastUnder, Cond.instanceMethod yX0_leastUnder, Cond.selects RX0 yX0_leastUnder yX0_leastUnder, Cond.code yX0_leastUnder cX0_leastUnder 2 (some (.object "SplayOrchard$Apple")), Cond.fieldLink RX0 17 "SplayOrchard$Apple" "left" "LSplayOrchard$Apple;", Cond.methodLink RX0 44 yX0_next, Cond.instanceMethod yX0_next, Cond.selects RX0 yX0_next yX0_next, Cond.code yX0_next cX0_next 2 (some (.object "SplayOrchard$Apple"))]
def wsX2_mixApple : List Cond := .code yX2_mixApple cX2_mixApple 5 (some .long) :: ((wsX2_mixApple_r1 ++ wsX2_mixApple_r2) ++ wsX00)
def wsX2_digest_r1 : List Cond := [Cond.constantLong RX2 165 (2339), Cond.fieldLink RX2 11 "SplayOrchard" "rows" "[LSplayOrchard$Tree;", Cond.methodLink RX2 28 yX2_apples, Cond.instanceMethod yX2_apples, Cond.selects RX2 yX2_apples yX2_apples, Cond.initialized RX2, Cond.code yX2_apples cX2_apples 6 (some .int), Cond.methodLink RX2 93 yX1_count, Cond.instanceMethod yX1_count, Cond.selects RX1 yX1_count yX1_count, Cond.initialized RX1, Cond.code yX1_count cX1_count 1 (some .int), Cond.fieldLink RX1 7 "SplayOrchard$Tree" "top" "LSplayOrchard$Apple;", Cond.methodLink RX1 63 yX0_countUnder, Cond.instanceMethod yX0_countUnder, Cond.selects RX0 yX0_countUnder yX0_countUnder, Cond.initialized RX0, Cond.code yX0_countUnder cX0_countUnder 4 (some .int), Cond.methodLink RX0 41 yX0_greatestUnder, Cond.instanceMethod yX0_greatestUnder, Cond.selects RX0 yX0_greatestUnder yX0_greatestUnder, Cond.code yX0_greatestUnder cX0_greatestUnder 2 (some (.object "SplayOrchard$Apple")), Cond.fieldLink RX0 23 "SplayOrchard$Apple" "right" "LSplayOrchard$Apple;", Cond.methodLink RX0 37 yX0_leastUnder]
def wsX2_digest_r2 : List Cond := [Cond.instanceMethod yX0_leastUnder, Cond.selects RX0 yX0_leastUnder yX0_leastUnder, Cond.code yX0_leastUnder cX0_leastUnder 2 (some (.object "SplayOrchard$Apple")), Cond.fieldLink RX0 17 "SplayOrchard$Apple" "left" "LSplayOrchard$Apple;", Cond.methodLink RX0 44 yX0_next, Cond.instanceMethod yX0_next, Cond.selects RX0 yX0_next yX0_next, Cond.code yX0_next cX0_next 2 (some (.object "SplayOrchard$Apple")), Cond.fieldLink RX0 20 "SplayOrchard$Apple" "up" "LSplayOrchard$Apple;", Cond.methodLink RX2 167 yX2_mix, Cond.static yX2_mix, Cond.code yX2_mix cX2_mix 3 (some .long), Cond.constantLong RX2 204 (31), Cond.methodLink RX2 171 yX2_turnings, Cond.instanceMethod yX2_turnings, Cond.selects RX2 yX2_turnings yX2_turnings, Cond.code yX2_turnings cX2_turnings 1 (some .int), Cond.fieldLink RX2 102 "SplayOrchard" "turned" "I", Cond.methodLink RX2 174 yX2_mixRow, Cond.instanceMethod yX2_mixRow, Cond.selects RX2 yX2_mixRow yX2_mixRow, Cond.code yX2_mixRow cX2_mixRow 6 (some .long), Cond.methodLink RX2 181 yX2_sizeOf, Cond.instanceMethod yX2_sizeOf]
def wsX2_digest_r3 : List Cond := [Cond.selects RX2 yX2_sizeOf yX2_sizeOf, Cond.code yX2_sizeOf cX2_sizeOf 2 (some .int), Cond.methodLink RX2 20 yX2_treeOf, Cond.instanceMethod yX2_treeOf, Cond.selects RX2 yX2_treeOf yX2_treeOf, Cond.code yX2_treeOf cX2_treeOf 2 (some (.object "SplayOrchard$Tree")), Cond.classLink RX2 125 "java/lang/IndexOutOfBoundsException", Cond.initialized "java/lang/IndexOutOfBoundsException", Cond.methodLink RX2 184 yX2_top, Cond.instanceMethod yX2_top, Cond.selects RX2 yX2_top yX2_top, Cond.code yX2_top cX2_top 2 (some .int), Cond.fieldLink RX2 82 "SplayOrchard$Tree" "top" "LSplayOrchard$Apple;", Cond.methodLink RX2 105 yX2_sizeOrNone, Cond.static yX2_sizeOrNone, Cond.code yX2_sizeOrNone cX2_sizeOrNone 1 (some .int), Cond.fieldLink RX2 130 "SplayOrchard$Apple" "size" "I", Cond.methodLink RX2 186 yX2_height, Cond.instanceMethod yX2_height, Cond.selects RX2 yX2_height yX2_height, Cond.code yX2_height cX2_height 2 (some .int), Cond.methodLink RX2 109 yX1_levels, Cond.instanceMethod yX1_levels, Cond.selects RX1 yX1_levels yX1_levels]
def wsX2_digest_r4 : List Cond := [Cond.code yX1_levels cX1_levels 3 (some .int), Cond.methodLink RX1 66 Lib.Math.max.name, Cond.static Lib.Math.max.name, Cond.initialized "java/lang/Math", Cond.code Lib.Math.max.name Lib.Math.max.code 2 (some .int), Cond.methodLink RX1 57 yX1_first, Cond.instanceMethod yX1_first, Cond.selects RX1 yX1_first yX1_first, Cond.code yX1_first cX1_first 1 (some (.object "SplayOrchard$Apple")), Cond.methodLink RX1 18 yX0_leastUnder, Cond.methodLink RX1 46 yX0_depth, Cond.instanceMethod yX0_depth, Cond.selects RX0 yX0_depth yX0_depth, Cond.code yX0_depth cX0_depth 3 (some .int), Cond.methodLink RX1 60 yX0_next, Cond.methodLink RX2 189 yX2_leastHeight, Cond.instanceMethod yX2_leastHeight, Cond.selects RX2 yX2_leastHeight yX2_leastHeight, Cond.code yX2_leastHeight cX2_leastHeight 5 (some .int), Cond.methodLink RX2 192 yX2_depths, Cond.instanceMethod yX2_depths, Cond.selects RX2 yX2_depths yX2_depths, Cond.code yX2_depths cX2_depths 2 (some .int), Cond.methodLink RX2 112 yX1_depthSum]
def wsX2_digest_r5 : List Cond := [Cond.instanceMethod yX1_depthSum, Cond.selects RX1 yX1_depthSum yX1_depthSum, Cond.code yX1_depthSum cX1_depthSum 3 (some .int), Cond.methodLink RX2 195 yX2_leaves, Cond.instanceMethod yX2_leaves, Cond.selects RX2 yX2_leaves yX2_leaves, Cond.code yX2_leaves cX2_leaves 2 (some .int), Cond.methodLink RX2 133 yX1_leafCount, Cond.instanceMethod yX1_leafCount, Cond.selects RX1 yX1_leafCount yX1_leafCount, Cond.code yX1_leafCount cX1_leafCount 3 (some .int), Cond.fieldLink RX1 72 "SplayOrchard$Apple" "left" "LSplayOrchard$Apple;", Cond.fieldLink RX1 75 "SplayOrchard$Apple" "right" "LSplayOrchard$Apple;", Cond.methodLink RX2 198 yX2_favourite, Cond.instanceMethod yX2_favourite, Cond.selects RX2 yX2_favourite yX2_favourite, Cond.code yX2_favourite cX2_favourite 2 (some .int), Cond.methodLink RX2 149 yX1_mostBitten, Cond.instanceMethod yX1_mostBitten, Cond.selects RX1 yX1_mostBitten yX1_mostBitten, Cond.code yX1_mostBitten cX1_mostBitten 3 (some (.object "SplayOrchard$Apple")), Cond.fieldLink RX1 78 "SplayOrchard$Apple" "bites" "I", Cond.methodLink RX2 201 yX2_bestToEat, Cond.instanceMethod yX2_bestToEat]
def wsX2_digest_r6 : List Cond := [Cond.selects RX2 yX2_bestToEat yX2_bestToEat, Cond.code yX2_bestToEat cX2_bestToEat 7 (some .int), Cond.fieldLink RX2 16 "SplayOrchard" "trial" "LSplayOrchard$Tree;", Cond.methodLink RX2 115 yX1_first, Cond.methodLink RX2 156 yX2_tryEating, Cond.instanceMethod yX2_tryEating, Cond.selects RX2 yX2_tryEating yX2_tryEating, Cond.code yX2_tryEating cX2_tryEating 4 none, Cond.fieldLink RX2 221 "SplayOrchard$Apple" "standIn" "LSplayOrchard$Apple;", Cond.methodLink RX2 217 yX1_standInFor, Cond.instanceMethod yX1_standInFor, Cond.selects RX1 yX1_standInFor yX1_standInFor, Cond.code yX1_standInFor cX1_standInFor 3 none, Cond.methodLink RX1 84 yX0_linkStandIn, Cond.instanceMethod yX0_linkStandIn, Cond.selects RX0 yX0_linkStandIn yX0_linkStandIn, Cond.code yX0_linkStandIn cX0_linkStandIn 1 none, Cond.fieldLink RX0 13 "SplayOrchard$Apple" "standIn" "LSplayOrchard$Apple;", Cond.methodLink RX0 47 yX0_standInOf, Cond.static yX0_standInOf, Cond.code yX0_standInOf cX0_standInOf 1 (some (.object "SplayOrchard$Apple")), Cond.methodLink RX1 87 yX0_standInOf, Cond.methodLink RX2 215 yX1_bringUp, Cond.instanceMethod yX1_bringUp]
def wsX2_digest_r7 : List Cond := [Cond.selects RX1 yX1_bringUp yX1_bringUp, Cond.code yX1_bringUp cX1_bringUp 6 (some .int), Cond.fieldLink RX1 13 "SplayOrchard$Apple" "up" "LSplayOrchard$Apple;", Cond.methodLink RX1 50 yX0_isOnTheLeft, Cond.instanceMethod yX0_isOnTheLeft, Cond.selects RX0 yX0_isOnTheLeft yX0_isOnTheLeft, Cond.code yX0_isOnTheLeft cX0_isOnTheLeft 1 (some .boolean), Cond.methodLink RX1 54 yX0_turn, Cond.instanceMethod yX0_turn, Cond.selects RX0 yX0_turn yX0_turn, Cond.code yX0_turn cX0_turn 4 none, Cond.methodLink RX0 26 yX0_isOnTheLeft, Cond.methodLink RX0 30 yX0_hangLeft, Cond.instanceMethod yX0_hangLeft, Cond.selects RX0 yX0_hangLeft yX0_hangLeft, Cond.code yX0_hangLeft cX0_hangLeft 2 none, Cond.methodLink RX0 34 yX0_hangRight, Cond.instanceMethod yX0_hangRight, Cond.selects RX0 yX0_hangRight yX0_hangRight, Cond.code yX0_hangRight cX0_hangRight 2 none, Cond.methodLink RX2 159 yX0_next, Cond.methodLink RX2 177 yX2_mixApple, Cond.static yX2_mixApple, Cond.code yX2_mixApple cX2_mixApple 5 (some .long)]
def wsX2_digest_r8 : List Cond := [Cond.fieldLink RX2 143 "SplayOrchard$Apple" "up" "LSplayOrchard$Apple;", Cond.fieldLink RX2 66 "SplayOrchard$Apple" "left" "LSplayOrchard$Apple;", Cond.fieldLink RX2 73 "SplayOrchard$Apple" "right" "LSplayOrchard$Apple;", Cond.fieldLink RX2 62 "SplayOrchard$Apple" "bites" "I", Cond.methodLink RX2 140 yX0_depth, Cond.methodLink RX2 146 yX0_countUnder]
def wsX2_digest : List Cond := .code yX2_digest cX2_digest 5 (some .long) :: ((wsX2_digest_r1 ++ (wsX2_digest_r2 ++ (wsX2_digest_r3 ++ (wsX2_digest_r4 ++ (wsX2_digest_r5 ++ (wsX2_digest_r6 ++ (wsX2_digest_r7 ++ wsX2_digest_r8))))))) ++ wsX20 ++ wsX10 ++ wsX00 ++ (vx_atS RX2 129 "java/lang/IndexOutOfBoundsException" ["java/lang/RuntimeException", "java/lang/Exception"]).filter goodWord)
def wsX3_init : List Cond := .code yX3_init cX3_init 2 none :: ([.methodLink RX3 3 objectInit, .instanceMethod objectInit, .code objectInit ⟨#[0xb1]⟩ 1 none, .arrayClass .int, .fieldLink RX3 9 "SplayOrchardModel" "now" "[I", .fieldLink RX3 13 "SplayOrchardModel" "kept" "[I"] ++ wsX30)
def wsX3_thrown : List Cond := .code yX3_thrown cX3_thrown 1 (some .int) :: ([.fieldLink RX3 16 "SplayOrchardModel" "thrown" "I"] ++ wsX30)
def wsX3_no : List Cond := .code yX3_no cX3_no 2 (some .int) :: ([.fieldLink RX3 16 "SplayOrchardModel" "thrown" "I"] ++ wsX30)
def wsX3_isNot : List Cond := .code yX3_isNot cX3_isNot 2 (some .boolean) :: ([.fieldLink RX3 16 "SplayOrchardModel" "thrown" "I"] ++ wsX30)
def wsX3_ok : List Cond := .code yX3_ok cX3_ok 2 (some .int) :: ([.fieldLink RX3 16 "SplayOrchardModel" "thrown" "I"] ++ wsX30)
def wsX3_isRow : List Cond := .code yX3_isRow cX3_isRow 1 (some .boolean) :: ([])
def wsX3_isSize : List Cond := .code yX3_isSize cX3_isSize 1 (some .boolean) :: ([])
def wsX3_keep : List Cond := .code yX3_keep cX3_keep 1 none :: ([.fieldLink RX3 9 "SplayOrchardModel" "now" "[I", .fieldLink RX3 13 "SplayOrchardModel" "kept" "[I", .methodLink RX3 20 arraycopyName, .native arraycopyName, .static arraycopyName, .initialized "java/lang/System", .fieldLink RX3 26 "SplayOrchardModel" "turned" "I", .fieldLink RX3 29 "SplayOrchardModel" "keptTurned" "I"] ++ wsX30)
def wsX3_bringBack : List Cond := .code yX3_bringBack cX3_bringBack 1 none :: ([.fieldLink RX3 13 "SplayOrchardModel" "kept" "[I", .fieldLink RX3 9 "SplayOrchardModel" "now" "[I", .methodLink RX3 20 arraycopyName, .native arraycopyName, .static arraycopyName, .initialized "java/lang/System", .fieldLink RX3 29 "SplayOrchardModel" "keptTurned" "I", .fieldLink RX3 26 "SplayOrchardModel" "turned" "I"] ++ wsX30)
def wsX3_find : List Cond := .code yX3_find cX3_find 4 (some .int) :: ([.fieldLink RX3 9 "SplayOrchardModel" "now" "[I"] ++ wsX30)
def wsX3_deep : List Cond := .code yX3_deep cX3_deep 4 (some .int) :: ([.fieldLink RX3 9 "SplayOrchardModel" "now" "[I"] ++ wsX30)
def wsX3_free : List Cond := .code yX3_free cX3_free 2 (some .int) :: ([.fieldLink RX3 9 "SplayOrchardModel" "now" "[I"] ++ wsX30)
def wsX3_end : List Cond := .code yX3_end cX3_end 4 (some .int) :: ([.fieldLink RX3 9 "SplayOrchardModel" "now" "[I"] ++ wsX30)
def wsX3_hang : List Cond := .code yX3_hang cX3_hang 4 none :: ([.fieldLink RX3 9 "SplayOrchardModel" "now" "[I"] ++ wsX30)
def wsX3_sideOf : List Cond := .code yX3_sideOf cX3_sideOf 2 (some .int) :: ([.fieldLink RX3 9 "SplayOrchardModel" "now" "[I"] ++ wsX30)
def wsX3_across : List Cond := .code yX3_across cX3_across 1 (some .int) :: ([])
def wsX3_turn : List Cond := .code yX3_turn cX3_turn 6 none :: ([.fieldLink RX3 9 "SplayOrchardModel" "now" "[I", .fieldLink RX3 26 "SplayOrchardModel" "turned" "I", .methodLink RX3 32 yX3_sideOf, .instanceMethod yX3_sideOf, .selects RX3 yX3_sideOf yX3_sideOf, .initialized RX3, .code yX3_sideOf cX3_sideOf 2 (some .int), .methodLink RX3 36 yX3_across, .static yX3_across, .code yX3_across cX3_across 1 (some .int), .methodLink RX3 39 yX3_hang, .instanceMethod yX3_hang, .selects RX3 yX3_hang yX3_hang, .code yX3_hang cX3_hang 4 none] ++ wsX30)
def wsX3_raise : List Cond := .code yX3_raise cX3_raise 3 none :: ([.fieldLink RX3 9 "SplayOrchardModel" "now" "[I", .methodLink RX3 32 yX3_sideOf, .instanceMethod yX3_sideOf, .selects RX3 yX3_sideOf yX3_sideOf, .initialized RX3, .code yX3_sideOf cX3_sideOf 2 (some .int), .methodLink RX3 43 yX3_turn, .instanceMethod yX3_turn, .selects RX3 yX3_turn yX3_turn, .code yX3_turn cX3_turn 6 none, .fieldLink RX3 26 "SplayOrchardModel" "turned" "I", .methodLink RX3 36 yX3_across, .static yX3_across, .code yX3_across cX3_across 1 (some .int), .methodLink RX3 39 yX3_hang, .instanceMethod yX3_hang, .selects RX3 yX3_hang yX3_hang, .code yX3_hang cX3_hang 4 none] ++ wsX30)
def wsX3_raiseIn : List Cond := .code yX3_raiseIn cX3_raiseIn 3 none :: ([.fieldLink RX3 9 "SplayOrchardModel" "now" "[I", .methodLink RX3 47 yX3_raise, .instanceMethod yX3_raise, .selects RX3 yX3_raise yX3_raise, .initialized RX3, .code yX3_raise cX3_raise 3 none, .methodLink RX3 32 yX3_sideOf, .instanceMethod yX3_sideOf, .selects RX3 yX3_sideOf yX3_sideOf, .code yX3_sideOf cX3_sideOf 2 (some .int), .methodLink RX3 43 yX3_turn, .instanceMethod yX3_turn, .selects RX3 yX3_turn yX3_turn, .code yX3_turn cX3_turn 6 none, .fieldLink RX3 26 "SplayOrchardModel" "turned" "I", .methodLink RX3 36 yX3_across, .static yX3_across, .code yX3_across cX3_across 1 (some .int), .methodLink RX3 39 yX3_hang, .instanceMethod yX3_hang, .selects RX3 yX3_hang yX3_hang, .code yX3_hang cX3_hang 4 none] ++ wsX30)
def wsX3_count : List Cond := .code yX3_count cX3_count 2 (some .int) :: ([.fieldLink RX3 9 "SplayOrchardModel" "now" "[I", .methodLink RX3 50 yX3_count, .instanceMethod yX3_count, .selects RX3 yX3_count yX3_count, .initialized RX3] ++ wsX30)
def wsX3_high : List Cond := .code yX3_high cX3_high 2 (some .int) :: ([.fieldLink RX3 9 "SplayOrchardModel" "now" "[I", .methodLink RX3 56 Lib.Math.max.name, .static Lib.Math.max.name, .initialized "java/lang/Math", .code Lib.Math.max.name Lib.Math.max.code 2 (some .int), .methodLink RX3 53 yX3_high, .instanceMethod yX3_high, .selects RX3 yX3_high yX3_high, .initialized RX3] ++ wsX30)
def wsX3_depthsOf : List Cond := .code yX3_depthsOf cX3_depthsOf 3 (some .int) :: ([.fieldLink RX3 9 "SplayOrchardModel" "now" "[I", .methodLink RX3 62 yX3_depthsOf, .instanceMethod yX3_depthsOf, .selects RX3 yX3_depthsOf yX3_depthsOf, .initialized RX3] ++ wsX30)
def wsX3_ends : List Cond := .code yX3_ends cX3_ends 2 (some .int) :: ([.fieldLink RX3 9 "SplayOrchardModel" "now" "[I", .methodLink RX3 65 yX3_ends, .instanceMethod yX3_ends, .selects RX3 yX3_ends yX3_ends, .initialized RX3] ++ wsX30)
def wsX3_under : List Cond := .code yX3_under cX3_under 3 (some .int) :: ([.fieldLink RX3 9 "SplayOrchardModel" "now" "[I", .methodLink RX3 50 yX3_count, .instanceMethod yX3_count, .selects RX3 yX3_count yX3_count, .initialized RX3, .code yX3_count cX3_count 2 (some .int), .methodLink RX3 68 yX3_under, .instanceMethod yX3_under, .selects RX3 yX3_under yX3_under] ++ wsX30)
def wsX3_nth : List Cond := .code yX3_nth cX3_nth 4 (some .int) :: ([.fieldLink RX3 9 "SplayOrchardModel" "now" "[I", .methodLink RX3 50 yX3_count, .instanceMethod yX3_count, .selects RX3 yX3_count yX3_count, .initialized RX3, .code yX3_count cX3_count 2 (some .int), .methodLink RX3 71 yX3_nth, .instanceMethod yX3_nth, .selects RX3 yX3_nth yX3_nth] ++ wsX30)
def wsX3_sizeAt : List Cond := .code yX3_sizeAt cX3_sizeAt 2 (some .int) :: ([.fieldLink RX3 9 "SplayOrchardModel" "now" "[I"] ++ wsX30)
def wsX3_plantDeep : List Cond := .code yX3_plantDeep cX3_plantDeep 5 (some .int) :: ([.fieldLink RX3 9 "SplayOrchardModel" "now" "[I"] ++ wsX30)
def wsX3_planted_r1 : List Cond := [Cond.fieldLink RX3 9 "SplayOrchardModel" "now" "[I", Cond.fieldLink RX3 78 "SplayOrchardModel" "many" "I", Cond.methodLink RX3 74 yX3_free, Cond.instanceMethod yX3_free, Cond.selects RX3 yX3_free yX3_free, Cond.initialized RX3, Cond.code yX3_free cX3_free 2 (some .int), Cond.methodLink RX3 39 yX3_hang, Cond.instanceMethod yX3_hang, Cond.selects RX3 yX3_hang yX3_hang, Cond.code yX3_hang cX3_hang 4 none, Cond.methodLink RX3 81 yX3_deep, Cond.instanceMethod yX3_deep, Cond.selects RX3 yX3_deep yX3_deep, Cond.code yX3_deep cX3_deep 4 (some .int), Cond.methodLink RX3 84 yX3_raiseIn, Cond.instanceMethod yX3_raiseIn, Cond.selects RX3 yX3_raiseIn yX3_raiseIn, Cond.code yX3_raiseIn cX3_raiseIn 3 none, Cond.methodLink RX3 47 yX3_raise, Cond.instanceMethod yX3_raise, Cond.selects RX3 yX3_raise yX3_raise, Cond.code yX3_raise cX3_raise 3 none, Cond.methodLink RX3 32 yX3_sideOf]
def wsX3_planted_r2 : List Cond := [Cond.instanceMethod yX3_sideOf, Cond.selects RX3 yX3_sideOf yX3_sideOf, Cond.code yX3_sideOf cX3_sideOf 2 (some .int), Cond.methodLink RX3 43 yX3_turn, Cond.instanceMethod yX3_turn, Cond.selects RX3 yX3_turn yX3_turn, Cond.code yX3_turn cX3_turn 6 none, Cond.fieldLink RX3 26 "SplayOrchardModel" "turned" "I", Cond.methodLink RX3 36 yX3_across, Cond.static yX3_across, Cond.code yX3_across cX3_across 1 (some .int)]
def wsX3_planted : List Cond := .code yX3_planted cX3_planted 7 (some .int) :: ((wsX3_planted_r1 ++ wsX3_planted_r2) ++ wsX30)
def wsX3_plant_r1 : List Cond := [Cond.fieldLink RX3 16 "SplayOrchardModel" "thrown" "I", Cond.fieldLink RX3 78 "SplayOrchardModel" "many" "I", Cond.methodLink RX3 88 yX3_isRow, Cond.static yX3_isRow, Cond.initialized RX3, Cond.code yX3_isRow cX3_isRow 1 (some .boolean), Cond.methodLink RX3 92 yX3_no, Cond.instanceMethod yX3_no, Cond.selects RX3 yX3_no yX3_no, Cond.code yX3_no cX3_no 2 (some .int), Cond.methodLink RX3 95 yX3_isSize, Cond.static yX3_isSize, Cond.code yX3_isSize cX3_isSize 1 (some .boolean), Cond.methodLink RX3 98 yX3_find, Cond.instanceMethod yX3_find, Cond.selects RX3 yX3_find yX3_find, Cond.code yX3_find cX3_find 4 (some .int), Cond.fieldLink RX3 9 "SplayOrchardModel" "now" "[I", Cond.methodLink RX3 101 yX3_planted, Cond.instanceMethod yX3_planted, Cond.selects RX3 yX3_planted yX3_planted, Cond.code yX3_planted cX3_planted 7 (some .int), Cond.methodLink RX3 74 yX3_free, Cond.instanceMethod yX3_free]
def wsX3_plant_r2 : List Cond := [Cond.selects RX3 yX3_free yX3_free, Cond.code yX3_free cX3_free 2 (some .int), Cond.methodLink RX3 39 yX3_hang, Cond.instanceMethod yX3_hang, Cond.selects RX3 yX3_hang yX3_hang, Cond.code yX3_hang cX3_hang 4 none, Cond.methodLink RX3 81 yX3_deep, Cond.instanceMethod yX3_deep, Cond.selects RX3 yX3_deep yX3_deep, Cond.code yX3_deep cX3_deep 4 (some .int), Cond.methodLink RX3 84 yX3_raiseIn, Cond.instanceMethod yX3_raiseIn, Cond.selects RX3 yX3_raiseIn yX3_raiseIn, Cond.code yX3_raiseIn cX3_raiseIn 3 none, Cond.methodLink RX3 47 yX3_raise, Cond.instanceMethod yX3_raise, Cond.selects RX3 yX3_raise yX3_raise, Cond.code yX3_raise cX3_raise 3 none, Cond.methodLink RX3 32 yX3_sideOf, Cond.instanceMethod yX3_sideOf, Cond.selects RX3 yX3_sideOf yX3_sideOf, Cond.code yX3_sideOf cX3_sideOf 2 (some .int), Cond.methodLink RX3 43 yX3_turn, Cond.instanceMethod yX3_turn]
def wsX3_plant_r3 : List Cond := [Cond.selects RX3 yX3_turn yX3_turn, Cond.code yX3_turn cX3_turn 6 none, Cond.fieldLink RX3 26 "SplayOrchardModel" "turned" "I", Cond.methodLink RX3 36 yX3_across, Cond.static yX3_across, Cond.code yX3_across cX3_across 1 (some .int)]
def wsX3_plant : List Cond := .code yX3_plant cX3_plant 3 (some .int) :: ((wsX3_plant_r1 ++ (wsX3_plant_r2 ++ wsX3_plant_r3)) ++ wsX30)
def wsX3_bitten_r1 : List Cond := [Cond.fieldLink RX3 9 "SplayOrchardModel" "now" "[I", Cond.methodLink RX3 81 yX3_deep, Cond.instanceMethod yX3_deep, Cond.selects RX3 yX3_deep yX3_deep, Cond.initialized RX3, Cond.code yX3_deep cX3_deep 4 (some .int), Cond.methodLink RX3 84 yX3_raiseIn, Cond.instanceMethod yX3_raiseIn, Cond.selects RX3 yX3_raiseIn yX3_raiseIn, Cond.code yX3_raiseIn cX3_raiseIn 3 none, Cond.methodLink RX3 47 yX3_raise, Cond.instanceMethod yX3_raise, Cond.selects RX3 yX3_raise yX3_raise, Cond.code yX3_raise cX3_raise 3 none, Cond.methodLink RX3 32 yX3_sideOf, Cond.instanceMethod yX3_sideOf, Cond.selects RX3 yX3_sideOf yX3_sideOf, Cond.code yX3_sideOf cX3_sideOf 2 (some .int), Cond.methodLink RX3 43 yX3_turn, Cond.instanceMethod yX3_turn, Cond.selects RX3 yX3_turn yX3_turn, Cond.code yX3_turn cX3_turn 6 none, Cond.fieldLink RX3 26 "SplayOrchardModel" "turned" "I", Cond.methodLink RX3 36 yX3_across]
def wsX3_bitten_r2 : List Cond := [Cond.static yX3_across, Cond.code yX3_across cX3_across 1 (some .int), Cond.methodLink RX3 39 yX3_hang, Cond.instanceMethod yX3_hang, Cond.selects RX3 yX3_hang yX3_hang, Cond.code yX3_hang cX3_hang 4 none]
def wsX3_bitten : List Cond := .code yX3_bitten cX3_bitten 4 (some .int) :: ((wsX3_bitten_r1 ++ wsX3_bitten_r2) ++ wsX30)
def wsX3_eat_r1 : List Cond := [Cond.fieldLink RX3 16 "SplayOrchardModel" "thrown" "I", Cond.methodLink RX3 88 yX3_isRow, Cond.static yX3_isRow, Cond.initialized RX3, Cond.code yX3_isRow cX3_isRow 1 (some .boolean), Cond.methodLink RX3 92 yX3_no, Cond.instanceMethod yX3_no, Cond.selects RX3 yX3_no yX3_no, Cond.code yX3_no cX3_no 2 (some .int), Cond.methodLink RX3 98 yX3_find, Cond.instanceMethod yX3_find, Cond.selects RX3 yX3_find yX3_find, Cond.code yX3_find cX3_find 4 (some .int), Cond.fieldLink RX3 9 "SplayOrchardModel" "now" "[I", Cond.methodLink RX3 104 yX3_bitten, Cond.instanceMethod yX3_bitten, Cond.selects RX3 yX3_bitten yX3_bitten, Cond.code yX3_bitten cX3_bitten 4 (some .int), Cond.methodLink RX3 81 yX3_deep, Cond.instanceMethod yX3_deep, Cond.selects RX3 yX3_deep yX3_deep, Cond.code yX3_deep cX3_deep 4 (some .int), Cond.methodLink RX3 84 yX3_raiseIn, Cond.instanceMethod yX3_raiseIn]
def wsX3_eat_r2 : List Cond := [Cond.selects RX3 yX3_raiseIn yX3_raiseIn, Cond.code yX3_raiseIn cX3_raiseIn 3 none, Cond.methodLink RX3 47 yX3_raise, Cond.instanceMethod yX3_raise, Cond.selects RX3 yX3_raise yX3_raise, Cond.code yX3_raise cX3_raise 3 none, Cond.methodLink RX3 32 yX3_sideOf, Cond.instanceMethod yX3_sideOf, Cond.selects RX3 yX3_sideOf yX3_sideOf, Cond.code yX3_sideOf cX3_sideOf 2 (some .int), Cond.methodLink RX3 43 yX3_turn, Cond.instanceMethod yX3_turn, Cond.selects RX3 yX3_turn yX3_turn, Cond.code yX3_turn cX3_turn 6 none, Cond.fieldLink RX3 26 "SplayOrchardModel" "turned" "I", Cond.methodLink RX3 36 yX3_across, Cond.static yX3_across, Cond.code yX3_across cX3_across 1 (some .int), Cond.methodLink RX3 39 yX3_hang, Cond.instanceMethod yX3_hang, Cond.selects RX3 yX3_hang yX3_hang, Cond.code yX3_hang cX3_hang 4 none]
def wsX3_eat : List Cond := .code yX3_eat cX3_eat 4 (some .int) :: ((wsX3_eat_r1 ++ wsX3_eat_r2) ++ wsX30)
def wsX3_lowered : List Cond := .code yX3_lowered cX3_lowered 2 (some .int) :: ([.fieldLink RX3 9 "SplayOrchardModel" "now" "[I"] ++ wsX30)
def wsX3_together_r1 : List Cond := [Cond.methodLink RX3 107 yX3_end, Cond.instanceMethod yX3_end, Cond.selects RX3 yX3_end yX3_end, Cond.initialized RX3, Cond.code yX3_end cX3_end 4 (some .int), Cond.fieldLink RX3 9 "SplayOrchardModel" "now" "[I", Cond.methodLink RX3 47 yX3_raise, Cond.instanceMethod yX3_raise, Cond.selects RX3 yX3_raise yX3_raise, Cond.code yX3_raise cX3_raise 3 none, Cond.methodLink RX3 32 yX3_sideOf, Cond.instanceMethod yX3_sideOf, Cond.selects RX3 yX3_sideOf yX3_sideOf, Cond.code yX3_sideOf cX3_sideOf 2 (some .int), Cond.methodLink RX3 43 yX3_turn, Cond.instanceMethod yX3_turn, Cond.selects RX3 yX3_turn yX3_turn, Cond.code yX3_turn cX3_turn 6 none, Cond.fieldLink RX3 26 "SplayOrchardModel" "turned" "I", Cond.methodLink RX3 36 yX3_across, Cond.static yX3_across, Cond.code yX3_across cX3_across 1 (some .int), Cond.methodLink RX3 39 yX3_hang, Cond.instanceMethod yX3_hang]
def wsX3_together_r2 : List Cond := [Cond.selects RX3 yX3_hang yX3_hang, Cond.code yX3_hang cX3_hang 4 none]
def wsX3_together : List Cond := .code yX3_together cX3_together 4 (some .int) :: ((wsX3_together_r1 ++ wsX3_together_r2) ++ wsX30)
def wsX3_picked_r1 : List Cond := [Cond.fieldLink RX3 9 "SplayOrchardModel" "now" "[I", Cond.fieldLink RX3 78 "SplayOrchardModel" "many" "I", Cond.methodLink RX3 84 yX3_raiseIn, Cond.instanceMethod yX3_raiseIn, Cond.selects RX3 yX3_raiseIn yX3_raiseIn, Cond.initialized RX3, Cond.code yX3_raiseIn cX3_raiseIn 3 none, Cond.methodLink RX3 47 yX3_raise, Cond.instanceMethod yX3_raise, Cond.selects RX3 yX3_raise yX3_raise, Cond.code yX3_raise cX3_raise 3 none, Cond.methodLink RX3 32 yX3_sideOf, Cond.instanceMethod yX3_sideOf, Cond.selects RX3 yX3_sideOf yX3_sideOf, Cond.code yX3_sideOf cX3_sideOf 2 (some .int), Cond.methodLink RX3 43 yX3_turn, Cond.instanceMethod yX3_turn, Cond.selects RX3 yX3_turn yX3_turn, Cond.code yX3_turn cX3_turn 6 none, Cond.fieldLink RX3 26 "SplayOrchardModel" "turned" "I", Cond.methodLink RX3 36 yX3_across, Cond.static yX3_across, Cond.code yX3_across cX3_across 1 (some .int), Cond.methodLink RX3 39 yX3_hang]
def wsX3_picked_r2 : List Cond := [Cond.instanceMethod yX3_hang, Cond.selects RX3 yX3_hang yX3_hang, Cond.code yX3_hang cX3_hang 4 none, Cond.methodLink RX3 110 yX3_lowered, Cond.instanceMethod yX3_lowered, Cond.selects RX3 yX3_lowered yX3_lowered, Cond.code yX3_lowered cX3_lowered 2 (some .int), Cond.methodLink RX3 113 yX3_together, Cond.instanceMethod yX3_together, Cond.selects RX3 yX3_together yX3_together, Cond.code yX3_together cX3_together 4 (some .int), Cond.methodLink RX3 107 yX3_end, Cond.instanceMethod yX3_end, Cond.selects RX3 yX3_end yX3_end, Cond.code yX3_end cX3_end 4 (some .int)]
def wsX3_picked : List Cond := .code yX3_picked cX3_picked 6 (some .int) :: ((wsX3_picked_r1 ++ wsX3_picked_r2) ++ wsX30)
def wsX3_pick_r1 : List Cond := [Cond.fieldLink RX3 16 "SplayOrchardModel" "thrown" "I", Cond.methodLink RX3 88 yX3_isRow, Cond.static yX3_isRow, Cond.initialized RX3, Cond.code yX3_isRow cX3_isRow 1 (some .boolean), Cond.methodLink RX3 92 yX3_no, Cond.instanceMethod yX3_no, Cond.selects RX3 yX3_no yX3_no, Cond.code yX3_no cX3_no 2 (some .int), Cond.methodLink RX3 98 yX3_find, Cond.instanceMethod yX3_find, Cond.selects RX3 yX3_find yX3_find, Cond.code yX3_find cX3_find 4 (some .int), Cond.fieldLink RX3 9 "SplayOrchardModel" "now" "[I", Cond.methodLink RX3 116 yX3_picked, Cond.instanceMethod yX3_picked, Cond.selects RX3 yX3_picked yX3_picked, Cond.code yX3_picked cX3_picked 6 (some .int), Cond.fieldLink RX3 78 "SplayOrchardModel" "many" "I", Cond.methodLink RX3 84 yX3_raiseIn, Cond.instanceMethod yX3_raiseIn, Cond.selects RX3 yX3_raiseIn yX3_raiseIn, Cond.code yX3_raiseIn cX3_raiseIn 3 none, Cond.methodLink RX3 47 yX3_raise]
def wsX3_pick_r2 : List Cond := [Cond.instanceMethod yX3_raise, Cond.selects RX3 yX3_raise yX3_raise, Cond.code yX3_raise cX3_raise 3 none, Cond.methodLink RX3 32 yX3_sideOf, Cond.instanceMethod yX3_sideOf, Cond.selects RX3 yX3_sideOf yX3_sideOf, Cond.code yX3_sideOf cX3_sideOf 2 (some .int), Cond.methodLink RX3 43 yX3_turn, Cond.instanceMethod yX3_turn, Cond.selects RX3 yX3_turn yX3_turn, Cond.code yX3_turn cX3_turn 6 none, Cond.fieldLink RX3 26 "SplayOrchardModel" "turned" "I", Cond.methodLink RX3 36 yX3_across, Cond.static yX3_across, Cond.code yX3_across cX3_across 1 (some .int), Cond.methodLink RX3 39 yX3_hang, Cond.instanceMethod yX3_hang, Cond.selects RX3 yX3_hang yX3_hang, Cond.code yX3_hang cX3_hang 4 none, Cond.methodLink RX3 110 yX3_lowered, Cond.instanceMethod yX3_lowered, Cond.selects RX3 yX3_lowered yX3_lowered, Cond.code yX3_lowered cX3_lowered 2 (some .int), Cond.methodLink RX3 113 yX3_together]
def wsX3_pick_r3 : List Cond := [Cond.instanceMethod yX3_together, Cond.selects RX3 yX3_together yX3_together, Cond.code yX3_together cX3_together 4 (some .int), Cond.methodLink RX3 107 yX3_end, Cond.instanceMethod yX3_end, Cond.selects RX3 yX3_end yX3_end, Cond.code yX3_end cX3_end 4 (some .int)]
def wsX3_pick : List Cond := .code yX3_pick cX3_pick 4 (some .int) :: ((wsX3_pick_r1 ++ (wsX3_pick_r2 ++ wsX3_pick_r3)) ++ wsX30)
def wsX3_parted_r1 : List Cond := [Cond.fieldLink RX3 9 "SplayOrchardModel" "now" "[I", Cond.methodLink RX3 68 yX3_under, Cond.instanceMethod yX3_under, Cond.selects RX3 yX3_under yX3_under, Cond.initialized RX3, Cond.code yX3_under cX3_under 3 (some .int), Cond.methodLink RX3 50 yX3_count, Cond.instanceMethod yX3_count, Cond.selects RX3 yX3_count yX3_count, Cond.code yX3_count cX3_count 2 (some .int), Cond.methodLink RX3 71 yX3_nth, Cond.instanceMethod yX3_nth, Cond.selects RX3 yX3_nth yX3_nth, Cond.code yX3_nth cX3_nth 4 (some .int), Cond.methodLink RX3 84 yX3_raiseIn, Cond.instanceMethod yX3_raiseIn, Cond.selects RX3 yX3_raiseIn yX3_raiseIn, Cond.code yX3_raiseIn cX3_raiseIn 3 none, Cond.methodLink RX3 47 yX3_raise, Cond.instanceMethod yX3_raise, Cond.selects RX3 yX3_raise yX3_raise, Cond.code yX3_raise cX3_raise 3 none, Cond.methodLink RX3 32 yX3_sideOf, Cond.instanceMethod yX3_sideOf]
def wsX3_parted_r2 : List Cond := [Cond.selects RX3 yX3_sideOf yX3_sideOf, Cond.code yX3_sideOf cX3_sideOf 2 (some .int), Cond.methodLink RX3 43 yX3_turn, Cond.instanceMethod yX3_turn, Cond.selects RX3 yX3_turn yX3_turn, Cond.code yX3_turn cX3_turn 6 none, Cond.fieldLink RX3 26 "SplayOrchardModel" "turned" "I", Cond.methodLink RX3 36 yX3_across, Cond.static yX3_across, Cond.code yX3_across cX3_across 1 (some .int), Cond.methodLink RX3 39 yX3_hang, Cond.instanceMethod yX3_hang, Cond.selects RX3 yX3_hang yX3_hang, Cond.code yX3_hang cX3_hang 4 none, Cond.methodLink RX3 110 yX3_lowered, Cond.instanceMethod yX3_lowered, Cond.selects RX3 yX3_lowered yX3_lowered, Cond.code yX3_lowered cX3_lowered 2 (some .int)]
def wsX3_parted : List Cond := .code yX3_parted cX3_parted 6 (some .int) :: ((wsX3_parted_r1 ++ wsX3_parted_r2) ++ wsX30)
def wsX3_split_r1 : List Cond := [Cond.fieldLink RX3 16 "SplayOrchardModel" "thrown" "I", Cond.fieldLink RX3 9 "SplayOrchardModel" "now" "[I", Cond.methodLink RX3 88 yX3_isRow, Cond.static yX3_isRow, Cond.initialized RX3, Cond.code yX3_isRow cX3_isRow 1 (some .boolean), Cond.methodLink RX3 92 yX3_no, Cond.instanceMethod yX3_no, Cond.selects RX3 yX3_no yX3_no, Cond.code yX3_no cX3_no 2 (some .int), Cond.methodLink RX3 95 yX3_isSize, Cond.static yX3_isSize, Cond.code yX3_isSize cX3_isSize 1 (some .boolean), Cond.methodLink RX3 119 yX3_parted, Cond.instanceMethod yX3_parted, Cond.selects RX3 yX3_parted yX3_parted, Cond.code yX3_parted cX3_parted 6 (some .int), Cond.methodLink RX3 68 yX3_under, Cond.instanceMethod yX3_under, Cond.selects RX3 yX3_under yX3_under, Cond.code yX3_under cX3_under 3 (some .int), Cond.methodLink RX3 50 yX3_count, Cond.instanceMethod yX3_count, Cond.selects RX3 yX3_count yX3_count]
def wsX3_split_r2 : List Cond := [Cond.code yX3_count cX3_count 2 (some .int), Cond.methodLink RX3 71 yX3_nth, Cond.instanceMethod yX3_nth, Cond.selects RX3 yX3_nth yX3_nth, Cond.code yX3_nth cX3_nth 4 (some .int), Cond.methodLink RX3 84 yX3_raiseIn, Cond.instanceMethod yX3_raiseIn, Cond.selects RX3 yX3_raiseIn yX3_raiseIn, Cond.code yX3_raiseIn cX3_raiseIn 3 none, Cond.methodLink RX3 47 yX3_raise, Cond.instanceMethod yX3_raise, Cond.selects RX3 yX3_raise yX3_raise, Cond.code yX3_raise cX3_raise 3 none, Cond.methodLink RX3 32 yX3_sideOf, Cond.instanceMethod yX3_sideOf, Cond.selects RX3 yX3_sideOf yX3_sideOf, Cond.code yX3_sideOf cX3_sideOf 2 (some .int), Cond.methodLink RX3 43 yX3_turn, Cond.instanceMethod yX3_turn, Cond.selects RX3 yX3_turn yX3_turn, Cond.code yX3_turn cX3_turn 6 none, Cond.fieldLink RX3 26 "SplayOrchardModel" "turned" "I", Cond.methodLink RX3 36 yX3_across, Cond.static yX3_across]
def wsX3_split_r3 : List Cond := [Cond.code yX3_across cX3_across 1 (some .int), Cond.methodLink RX3 39 yX3_hang, Cond.instanceMethod yX3_hang, Cond.selects RX3 yX3_hang yX3_hang, Cond.code yX3_hang cX3_hang 4 none, Cond.methodLink RX3 110 yX3_lowered, Cond.instanceMethod yX3_lowered, Cond.selects RX3 yX3_lowered yX3_lowered, Cond.code yX3_lowered cX3_lowered 2 (some .int)]
def wsX3_split : List Cond := .code yX3_split cX3_split 4 (some .int) :: ((wsX3_split_r1 ++ (wsX3_split_r2 ++ wsX3_split_r3)) ++ wsX30)
def wsX3_fits : List Cond := .code yX3_fits cX3_fits 3 (some .boolean) :: ([.fieldLink RX3 9 "SplayOrchardModel" "now" "[I", .methodLink RX3 107 yX3_end, .instanceMethod yX3_end, .selects RX3 yX3_end yX3_end, .initialized RX3, .code yX3_end cX3_end 4 (some .int)] ++ wsX30)
def wsX3_join_r1 : List Cond := [Cond.fieldLink RX3 16 "SplayOrchardModel" "thrown" "I", Cond.fieldLink RX3 9 "SplayOrchardModel" "now" "[I", Cond.methodLink RX3 88 yX3_isRow, Cond.static yX3_isRow, Cond.initialized RX3, Cond.code yX3_isRow cX3_isRow 1 (some .boolean), Cond.methodLink RX3 92 yX3_no, Cond.instanceMethod yX3_no, Cond.selects RX3 yX3_no yX3_no, Cond.code yX3_no cX3_no 2 (some .int), Cond.methodLink RX3 123 yX3_fits, Cond.instanceMethod yX3_fits, Cond.selects RX3 yX3_fits yX3_fits, Cond.code yX3_fits cX3_fits 3 (some .boolean), Cond.methodLink RX3 107 yX3_end, Cond.instanceMethod yX3_end, Cond.selects RX3 yX3_end yX3_end, Cond.code yX3_end cX3_end 4 (some .int), Cond.methodLink RX3 113 yX3_together, Cond.instanceMethod yX3_together, Cond.selects RX3 yX3_together yX3_together, Cond.code yX3_together cX3_together 4 (some .int), Cond.methodLink RX3 47 yX3_raise, Cond.instanceMethod yX3_raise]
def wsX3_join_r2 : List Cond := [Cond.selects RX3 yX3_raise yX3_raise, Cond.code yX3_raise cX3_raise 3 none, Cond.methodLink RX3 32 yX3_sideOf, Cond.instanceMethod yX3_sideOf, Cond.selects RX3 yX3_sideOf yX3_sideOf, Cond.code yX3_sideOf cX3_sideOf 2 (some .int), Cond.methodLink RX3 43 yX3_turn, Cond.instanceMethod yX3_turn, Cond.selects RX3 yX3_turn yX3_turn, Cond.code yX3_turn cX3_turn 6 none, Cond.fieldLink RX3 26 "SplayOrchardModel" "turned" "I", Cond.methodLink RX3 36 yX3_across, Cond.static yX3_across, Cond.code yX3_across cX3_across 1 (some .int), Cond.methodLink RX3 39 yX3_hang, Cond.instanceMethod yX3_hang, Cond.selects RX3 yX3_hang yX3_hang, Cond.code yX3_hang cX3_hang 4 none, Cond.methodLink RX3 50 yX3_count, Cond.instanceMethod yX3_count, Cond.selects RX3 yX3_count yX3_count, Cond.code yX3_count cX3_count 2 (some .int)]
def wsX3_join : List Cond := .code yX3_join cX3_join 3 (some .int) :: ((wsX3_join_r1 ++ wsX3_join_r2) ++ wsX30)
def wsX3_apples : List Cond := .code yX3_apples cX3_apples 1 (some .int) :: ([.fieldLink RX3 78 "SplayOrchardModel" "many" "I", .methodLink RX3 127 yX3_ok, .instanceMethod yX3_ok, .selects RX3 yX3_ok yX3_ok, .initialized RX3, .code yX3_ok cX3_ok 2 (some .int), .fieldLink RX3 16 "SplayOrchardModel" "thrown" "I"] ++ wsX30)
def wsX3_turnings : List Cond := .code yX3_turnings cX3_turnings 1 (some .int) :: ([.fieldLink RX3 26 "SplayOrchardModel" "turned" "I", .methodLink RX3 127 yX3_ok, .instanceMethod yX3_ok, .selects RX3 yX3_ok yX3_ok, .initialized RX3, .code yX3_ok cX3_ok 2 (some .int), .fieldLink RX3 16 "SplayOrchardModel" "thrown" "I"] ++ wsX30)
def wsX3_sizeOf : List Cond := .code yX3_sizeOf cX3_sizeOf 2 (some .int) :: ([.fieldLink RX3 16 "SplayOrchardModel" "thrown" "I", .fieldLink RX3 9 "SplayOrchardModel" "now" "[I", .methodLink RX3 88 yX3_isRow, .static yX3_isRow, .initialized RX3, .code yX3_isRow cX3_isRow 1 (some .boolean), .methodLink RX3 50 yX3_count, .instanceMethod yX3_count, .selects RX3 yX3_count yX3_count, .code yX3_count cX3_count 2 (some .int), .methodLink RX3 92 yX3_no, .instanceMethod yX3_no, .selects RX3 yX3_no yX3_no, .code yX3_no cX3_no 2 (some .int)] ++ wsX30)
def wsX3_top : List Cond := .code yX3_top cX3_top 2 (some .int) :: ([.fieldLink RX3 16 "SplayOrchardModel" "thrown" "I", .fieldLink RX3 9 "SplayOrchardModel" "now" "[I", .methodLink RX3 88 yX3_isRow, .static yX3_isRow, .initialized RX3, .code yX3_isRow cX3_isRow 1 (some .boolean), .methodLink RX3 130 yX3_sizeAt, .instanceMethod yX3_sizeAt, .selects RX3 yX3_sizeAt yX3_sizeAt, .code yX3_sizeAt cX3_sizeAt 2 (some .int), .methodLink RX3 92 yX3_no, .instanceMethod yX3_no, .selects RX3 yX3_no yX3_no, .code yX3_no cX3_no 2 (some .int)] ++ wsX30)
def wsX3_height : List Cond := .code yX3_height cX3_height 2 (some .int) :: ([.fieldLink RX3 16 "SplayOrchardModel" "thrown" "I", .fieldLink RX3 9 "SplayOrchardModel" "now" "[I", .methodLink RX3 88 yX3_isRow, .static yX3_isRow, .initialized RX3, .code yX3_isRow cX3_isRow 1 (some .boolean), .methodLink RX3 53 yX3_high, .instanceMethod yX3_high, .selects RX3 yX3_high yX3_high, .code yX3_high cX3_high 2 (some .int), .methodLink RX3 56 Lib.Math.max.name, .static Lib.Math.max.name, .initialized "java/lang/Math", .code Lib.Math.max.name Lib.Math.max.code 2 (some .int), .methodLink RX3 92 yX3_no, .instanceMethod yX3_no, .selects RX3 yX3_no yX3_no, .code yX3_no cX3_no 2 (some .int)] ++ wsX30)
def wsX3_lowest : List Cond := .code yX3_lowest cX3_lowest 4 (some .int) :: ([.fieldLink RX3 9 "SplayOrchardModel" "now" "[I", .methodLink RX3 50 yX3_count, .instanceMethod yX3_count, .selects RX3 yX3_count yX3_count, .initialized RX3, .code yX3_count cX3_count 2 (some .int)] ++ wsX30)
def wsX3_leastHeight : List Cond := .code yX3_leastHeight cX3_leastHeight 2 (some .int) :: ([.fieldLink RX3 16 "SplayOrchardModel" "thrown" "I", .methodLink RX3 88 yX3_isRow, .static yX3_isRow, .initialized RX3, .code yX3_isRow cX3_isRow 1 (some .boolean), .methodLink RX3 133 yX3_lowest, .instanceMethod yX3_lowest, .selects RX3 yX3_lowest yX3_lowest, .code yX3_lowest cX3_lowest 4 (some .int), .fieldLink RX3 9 "SplayOrchardModel" "now" "[I", .methodLink RX3 50 yX3_count, .instanceMethod yX3_count, .selects RX3 yX3_count yX3_count, .code yX3_count cX3_count 2 (some .int), .methodLink RX3 92 yX3_no, .instanceMethod yX3_no, .selects RX3 yX3_no yX3_no, .code yX3_no cX3_no 2 (some .int)] ++ wsX30)
def wsX3_depths : List Cond := .code yX3_depths cX3_depths 2 (some .int) :: ([.fieldLink RX3 16 "SplayOrchardModel" "thrown" "I", .fieldLink RX3 9 "SplayOrchardModel" "now" "[I", .methodLink RX3 88 yX3_isRow, .static yX3_isRow, .initialized RX3, .code yX3_isRow cX3_isRow 1 (some .boolean), .methodLink RX3 62 yX3_depthsOf, .instanceMethod yX3_depthsOf, .selects RX3 yX3_depthsOf yX3_depthsOf, .code yX3_depthsOf cX3_depthsOf 3 (some .int), .methodLink RX3 92 yX3_no, .instanceMethod yX3_no, .selects RX3 yX3_no yX3_no, .code yX3_no cX3_no 2 (some .int)] ++ wsX30)
def wsX3_smallest : List Cond := .code yX3_smallest cX3_smallest 2 (some .int) :: ([.fieldLink RX3 16 "SplayOrchardModel" "thrown" "I", .fieldLink RX3 9 "SplayOrchardModel" "now" "[I", .methodLink RX3 88 yX3_isRow, .static yX3_isRow, .initialized RX3, .code yX3_isRow cX3_isRow 1 (some .boolean), .methodLink RX3 107 yX3_end, .instanceMethod yX3_end, .selects RX3 yX3_end yX3_end, .code yX3_end cX3_end 4 (some .int), .methodLink RX3 130 yX3_sizeAt, .instanceMethod yX3_sizeAt, .selects RX3 yX3_sizeAt yX3_sizeAt, .code yX3_sizeAt cX3_sizeAt 2 (some .int), .methodLink RX3 92 yX3_no, .instanceMethod yX3_no, .selects RX3 yX3_no yX3_no, .code yX3_no cX3_no 2 (some .int)] ++ wsX30)
def wsX3_greatest : List Cond := .code yX3_greatest cX3_greatest 2 (some .int) :: ([.fieldLink RX3 16 "SplayOrchardModel" "thrown" "I", .fieldLink RX3 9 "SplayOrchardModel" "now" "[I", .methodLink RX3 88 yX3_isRow, .static yX3_isRow, .initialized RX3, .code yX3_isRow cX3_isRow 1 (some .boolean), .methodLink RX3 107 yX3_end, .instanceMethod yX3_end, .selects RX3 yX3_end yX3_end, .code yX3_end cX3_end 4 (some .int), .methodLink RX3 130 yX3_sizeAt, .instanceMethod yX3_sizeAt, .selects RX3 yX3_sizeAt yX3_sizeAt, .code yX3_sizeAt cX3_sizeAt 2 (some .int), .methodLink RX3 92 yX3_no, .instanceMethod yX3_no, .selects RX3 yX3_no yX3_no, .code yX3_no cX3_no 2 (some .int)] ++ wsX30)
def wsX3_inOrder : List Cond := .code yX3_inOrder cX3_inOrder 3 (some .int) :: ([.fieldLink RX3 16 "SplayOrchardModel" "thrown" "I", .fieldLink RX3 9 "SplayOrchardModel" "now" "[I", .methodLink RX3 88 yX3_isRow, .static yX3_isRow, .initialized RX3, .code yX3_isRow cX3_isRow 1 (some .boolean), .methodLink RX3 50 yX3_count, .instanceMethod yX3_count, .selects RX3 yX3_count yX3_count, .code yX3_count cX3_count 2 (some .int), .methodLink RX3 92 yX3_no, .instanceMethod yX3_no, .selects RX3 yX3_no yX3_no, .code yX3_no cX3_no 2 (some .int), .methodLink RX3 71 yX3_nth, .instanceMethod yX3_nth, .selects RX3 yX3_nth yX3_nth, .code yX3_nth cX3_nth 4 (some .int)] ++ wsX30)
def wsX3_leaves : List Cond := .code yX3_leaves cX3_leaves 2 (some .int) :: ([.fieldLink RX3 16 "SplayOrchardModel" "thrown" "I", .fieldLink RX3 9 "SplayOrchardModel" "now" "[I", .methodLink RX3 88 yX3_isRow, .static yX3_isRow, .initialized RX3, .code yX3_isRow cX3_isRow 1 (some .boolean), .methodLink RX3 65 yX3_ends, .instanceMethod yX3_ends, .selects RX3 yX3_ends yX3_ends, .code yX3_ends cX3_ends 2 (some .int), .methodLink RX3 92 yX3_no, .instanceMethod yX3_no, .selects RX3 yX3_no yX3_no, .code yX3_no cX3_no 2 (some .int)] ++ wsX30)
def wsX3_has : List Cond := .code yX3_has cX3_has 3 (some .boolean) :: ([.fieldLink RX3 16 "SplayOrchardModel" "thrown" "I", .methodLink RX3 88 yX3_isRow, .static yX3_isRow, .initialized RX3, .code yX3_isRow cX3_isRow 1 (some .boolean), .methodLink RX3 98 yX3_find, .instanceMethod yX3_find, .selects RX3 yX3_find yX3_find, .code yX3_find cX3_find 4 (some .int), .fieldLink RX3 9 "SplayOrchardModel" "now" "[I", .methodLink RX3 136 yX3_isNot, .instanceMethod yX3_isNot, .selects RX3 yX3_isNot yX3_isNot, .code yX3_isNot cX3_isNot 2 (some .boolean)] ++ wsX30)
def wsX3_smaller : List Cond := .code yX3_smaller cX3_smaller 3 (some .int) :: ([.fieldLink RX3 16 "SplayOrchardModel" "thrown" "I", .fieldLink RX3 9 "SplayOrchardModel" "now" "[I", .methodLink RX3 88 yX3_isRow, .static yX3_isRow, .initialized RX3, .code yX3_isRow cX3_isRow 1 (some .boolean), .methodLink RX3 68 yX3_under, .instanceMethod yX3_under, .selects RX3 yX3_under yX3_under, .code yX3_under cX3_under 3 (some .int), .methodLink RX3 50 yX3_count, .instanceMethod yX3_count, .selects RX3 yX3_count yX3_count, .code yX3_count cX3_count 2 (some .int), .methodLink RX3 92 yX3_no, .instanceMethod yX3_no, .selects RX3 yX3_no yX3_no, .code yX3_no cX3_no 2 (some .int)] ++ wsX30)
def wsX3_asked : List Cond := .code yX3_asked cX3_asked 4 (some .int) :: ([.fieldLink RX3 16 "SplayOrchardModel" "thrown" "I", .methodLink RX3 88 yX3_isRow, .static yX3_isRow, .initialized RX3, .code yX3_isRow cX3_isRow 1 (some .boolean), .methodLink RX3 92 yX3_no, .instanceMethod yX3_no, .selects RX3 yX3_no yX3_no, .code yX3_no cX3_no 2 (some .int), .methodLink RX3 98 yX3_find, .instanceMethod yX3_find, .selects RX3 yX3_find yX3_find, .code yX3_find cX3_find 4 (some .int), .fieldLink RX3 9 "SplayOrchardModel" "now" "[I"] ++ wsX30)
def wsX3_depthOf : List Cond := .code yX3_depthOf cX3_depthOf 4 (some .int) :: ([.methodLink RX3 139 yX3_asked, .instanceMethod yX3_asked, .selects RX3 yX3_asked yX3_asked, .initialized RX3, .code yX3_asked cX3_asked 4 (some .int), .fieldLink RX3 16 "SplayOrchardModel" "thrown" "I", .methodLink RX3 88 yX3_isRow, .static yX3_isRow, .code yX3_isRow cX3_isRow 1 (some .boolean), .methodLink RX3 92 yX3_no, .instanceMethod yX3_no, .selects RX3 yX3_no yX3_no, .code yX3_no cX3_no 2 (some .int), .methodLink RX3 98 yX3_find, .instanceMethod yX3_find, .selects RX3 yX3_find yX3_find, .code yX3_find cX3_find 4 (some .int), .fieldLink RX3 9 "SplayOrchardModel" "now" "[I", .methodLink RX3 81 yX3_deep, .instanceMethod yX3_deep, .selects RX3 yX3_deep yX3_deep, .code yX3_deep cX3_deep 4 (some .int)] ++ wsX30)
def wsX3_above : List Cond := .code yX3_above cX3_above 4 (some .int) :: ([.fieldLink RX3 9 "SplayOrchardModel" "now" "[I", .methodLink RX3 139 yX3_asked, .instanceMethod yX3_asked, .selects RX3 yX3_asked yX3_asked, .initialized RX3, .code yX3_asked cX3_asked 4 (some .int), .fieldLink RX3 16 "SplayOrchardModel" "thrown" "I", .methodLink RX3 88 yX3_isRow, .static yX3_isRow, .code yX3_isRow cX3_isRow 1 (some .boolean), .methodLink RX3 92 yX3_no, .instanceMethod yX3_no, .selects RX3 yX3_no yX3_no, .code yX3_no cX3_no 2 (some .int), .methodLink RX3 98 yX3_find, .instanceMethod yX3_find, .selects RX3 yX3_find yX3_find, .code yX3_find cX3_find 4 (some .int), .methodLink RX3 130 yX3_sizeAt, .instanceMethod yX3_sizeAt, .selects RX3 yX3_sizeAt yX3_sizeAt, .code yX3_sizeAt cX3_sizeAt 2 (some .int)] ++ wsX30)
def wsX3_leftOf : List Cond := .code yX3_leftOf cX3_leftOf 4 (some .int) :: ([.fieldLink RX3 9 "SplayOrchardModel" "now" "[I", .methodLink RX3 139 yX3_asked, .instanceMethod yX3_asked, .selects RX3 yX3_asked yX3_asked, .initialized RX3, .code yX3_asked cX3_asked 4 (some .int), .fieldLink RX3 16 "SplayOrchardModel" "thrown" "I", .methodLink RX3 88 yX3_isRow, .static yX3_isRow, .code yX3_isRow cX3_isRow 1 (some .boolean), .methodLink RX3 92 yX3_no, .instanceMethod yX3_no, .selects RX3 yX3_no yX3_no, .code yX3_no cX3_no 2 (some .int), .methodLink RX3 98 yX3_find, .instanceMethod yX3_find, .selects RX3 yX3_find yX3_find, .code yX3_find cX3_find 4 (some .int), .methodLink RX3 130 yX3_sizeAt, .instanceMethod yX3_sizeAt, .selects RX3 yX3_sizeAt yX3_sizeAt, .code yX3_sizeAt cX3_sizeAt 2 (some .int)] ++ wsX30)
def wsX3_rightOf : List Cond := .code yX3_rightOf cX3_rightOf 4 (some .int) :: ([.fieldLink RX3 9 "SplayOrchardModel" "now" "[I", .methodLink RX3 139 yX3_asked, .instanceMethod yX3_asked, .selects RX3 yX3_asked yX3_asked, .initialized RX3, .code yX3_asked cX3_asked 4 (some .int), .fieldLink RX3 16 "SplayOrchardModel" "thrown" "I", .methodLink RX3 88 yX3_isRow, .static yX3_isRow, .code yX3_isRow cX3_isRow 1 (some .boolean), .methodLink RX3 92 yX3_no, .instanceMethod yX3_no, .selects RX3 yX3_no yX3_no, .code yX3_no cX3_no 2 (some .int), .methodLink RX3 98 yX3_find, .instanceMethod yX3_find, .selects RX3 yX3_find yX3_find, .code yX3_find cX3_find 4 (some .int), .methodLink RX3 130 yX3_sizeAt, .instanceMethod yX3_sizeAt, .selects RX3 yX3_sizeAt yX3_sizeAt, .code yX3_sizeAt cX3_sizeAt 2 (some .int)] ++ wsX30)
def wsX3_below : List Cond := .code yX3_below cX3_below 4 (some .int) :: ([.methodLink RX3 139 yX3_asked, .instanceMethod yX3_asked, .selects RX3 yX3_asked yX3_asked, .initialized RX3, .code yX3_asked cX3_asked 4 (some .int), .fieldLink RX3 16 "SplayOrchardModel" "thrown" "I", .methodLink RX3 88 yX3_isRow, .static yX3_isRow, .code yX3_isRow cX3_isRow 1 (some .boolean), .methodLink RX3 92 yX3_no, .instanceMethod yX3_no, .selects RX3 yX3_no yX3_no, .code yX3_no cX3_no 2 (some .int), .methodLink RX3 98 yX3_find, .instanceMethod yX3_find, .selects RX3 yX3_find yX3_find, .code yX3_find cX3_find 4 (some .int), .fieldLink RX3 9 "SplayOrchardModel" "now" "[I", .methodLink RX3 50 yX3_count, .instanceMethod yX3_count, .selects RX3 yX3_count yX3_count, .code yX3_count cX3_count 2 (some .int)] ++ wsX30)
def wsX3_eaten : List Cond := .code yX3_eaten cX3_eaten 4 (some .int) :: ([.fieldLink RX3 9 "SplayOrchardModel" "now" "[I", .methodLink RX3 139 yX3_asked, .instanceMethod yX3_asked, .selects RX3 yX3_asked yX3_asked, .initialized RX3, .code yX3_asked cX3_asked 4 (some .int), .fieldLink RX3 16 "SplayOrchardModel" "thrown" "I", .methodLink RX3 88 yX3_isRow, .static yX3_isRow, .code yX3_isRow cX3_isRow 1 (some .boolean), .methodLink RX3 92 yX3_no, .instanceMethod yX3_no, .selects RX3 yX3_no yX3_no, .code yX3_no cX3_no 2 (some .int), .methodLink RX3 98 yX3_find, .instanceMethod yX3_find, .selects RX3 yX3_find yX3_find, .code yX3_find cX3_find 4 (some .int)] ++ wsX30)
def wsX3_liked : List Cond := .code yX3_liked cX3_liked 5 (some .int) :: ([.fieldLink RX3 9 "SplayOrchardModel" "now" "[I", .methodLink RX3 50 yX3_count, .instanceMethod yX3_count, .selects RX3 yX3_count yX3_count, .initialized RX3, .code yX3_count cX3_count 2 (some .int), .methodLink RX3 71 yX3_nth, .instanceMethod yX3_nth, .selects RX3 yX3_nth yX3_nth, .code yX3_nth cX3_nth 4 (some .int), .methodLink RX3 130 yX3_sizeAt, .instanceMethod yX3_sizeAt, .selects RX3 yX3_sizeAt yX3_sizeAt, .code yX3_sizeAt cX3_sizeAt 2 (some .int)] ++ wsX30)
def wsX3_favourite_r1 : List Cond := [Cond.fieldLink RX3 16 "SplayOrchardModel" "thrown" "I", Cond.methodLink RX3 88 yX3_isRow, Cond.static yX3_isRow, Cond.initialized RX3, Cond.code yX3_isRow cX3_isRow 1 (some .boolean), Cond.methodLink RX3 142 yX3_liked, Cond.instanceMethod yX3_liked, Cond.selects RX3 yX3_liked yX3_liked, Cond.code yX3_liked cX3_liked 5 (some .int), Cond.fieldLink RX3 9 "SplayOrchardModel" "now" "[I", Cond.methodLink RX3 50 yX3_count, Cond.instanceMethod yX3_count, Cond.selects RX3 yX3_count yX3_count, Cond.code yX3_count cX3_count 2 (some .int), Cond.methodLink RX3 71 yX3_nth, Cond.instanceMethod yX3_nth, Cond.selects RX3 yX3_nth yX3_nth, Cond.code yX3_nth cX3_nth 4 (some .int), Cond.methodLink RX3 130 yX3_sizeAt, Cond.instanceMethod yX3_sizeAt, Cond.selects RX3 yX3_sizeAt yX3_sizeAt, Cond.code yX3_sizeAt cX3_sizeAt 2 (some .int), Cond.methodLink RX3 92 yX3_no, Cond.instanceMethod yX3_no]
def wsX3_favourite_r2 : List Cond := [Cond.selects RX3 yX3_no yX3_no, Cond.code yX3_no cX3_no 2 (some .int)]
def wsX3_favourite : List Cond := .code yX3_favourite cX3_favourite 2 (some .int) :: ((wsX3_favourite_r1 ++ wsX3_favourite_r2) ++ wsX30)
def wsX3_meet : List Cond := .code yX3_meet cX3_meet 6 (some .int) :: ([.fieldLink RX3 9 "SplayOrchardModel" "now" "[I", .methodLink RX3 139 yX3_asked, .instanceMethod yX3_asked, .selects RX3 yX3_asked yX3_asked, .initialized RX3, .code yX3_asked cX3_asked 4 (some .int), .fieldLink RX3 16 "SplayOrchardModel" "thrown" "I", .methodLink RX3 88 yX3_isRow, .static yX3_isRow, .code yX3_isRow cX3_isRow 1 (some .boolean), .methodLink RX3 92 yX3_no, .instanceMethod yX3_no, .selects RX3 yX3_no yX3_no, .code yX3_no cX3_no 2 (some .int), .methodLink RX3 98 yX3_find, .instanceMethod yX3_find, .selects RX3 yX3_find yX3_find, .code yX3_find cX3_find 4 (some .int), .methodLink RX3 81 yX3_deep, .instanceMethod yX3_deep, .selects RX3 yX3_deep yX3_deep, .code yX3_deep cX3_deep 4 (some .int)] ++ wsX30)
def wsX3_depthBehind_r1 : List Cond := [Cond.methodLink RX3 139 yX3_asked, Cond.instanceMethod yX3_asked, Cond.selects RX3 yX3_asked yX3_asked, Cond.initialized RX3, Cond.code yX3_asked cX3_asked 4 (some .int), Cond.fieldLink RX3 16 "SplayOrchardModel" "thrown" "I", Cond.methodLink RX3 88 yX3_isRow, Cond.static yX3_isRow, Cond.code yX3_isRow cX3_isRow 1 (some .boolean), Cond.methodLink RX3 92 yX3_no, Cond.instanceMethod yX3_no, Cond.selects RX3 yX3_no yX3_no, Cond.code yX3_no cX3_no 2 (some .int), Cond.methodLink RX3 98 yX3_find, Cond.instanceMethod yX3_find, Cond.selects RX3 yX3_find yX3_find, Cond.code yX3_find cX3_find 4 (some .int), Cond.fieldLink RX3 9 "SplayOrchardModel" "now" "[I", Cond.methodLink RX3 145 yX3_keep, Cond.instanceMethod yX3_keep, Cond.selects RX3 yX3_keep yX3_keep, Cond.code yX3_keep cX3_keep 1 none, Cond.fieldLink RX3 13 "SplayOrchardModel" "kept" "[I", Cond.methodLink RX3 20 arraycopyName]
def wsX3_depthBehind_r2 : List Cond := [Cond.native arraycopyName, Cond.static arraycopyName, Cond.initialized "java/lang/System", Cond.fieldLink RX3 26 "SplayOrchardModel" "turned" "I", Cond.fieldLink RX3 29 "SplayOrchardModel" "keptTurned" "I", Cond.methodLink RX3 47 yX3_raise, Cond.instanceMethod yX3_raise, Cond.selects RX3 yX3_raise yX3_raise, Cond.code yX3_raise cX3_raise 3 none, Cond.methodLink RX3 32 yX3_sideOf, Cond.instanceMethod yX3_sideOf, Cond.selects RX3 yX3_sideOf yX3_sideOf, Cond.code yX3_sideOf cX3_sideOf 2 (some .int), Cond.methodLink RX3 43 yX3_turn, Cond.instanceMethod yX3_turn, Cond.selects RX3 yX3_turn yX3_turn, Cond.code yX3_turn cX3_turn 6 none, Cond.methodLink RX3 36 yX3_across, Cond.static yX3_across, Cond.code yX3_across cX3_across 1 (some .int), Cond.methodLink RX3 39 yX3_hang, Cond.instanceMethod yX3_hang, Cond.selects RX3 yX3_hang yX3_hang, Cond.code yX3_hang cX3_hang 4 none]
def wsX3_depthBehind_r3 : List Cond := [Cond.methodLink RX3 81 yX3_deep, Cond.instanceMethod yX3_deep, Cond.selects RX3 yX3_deep yX3_deep, Cond.code yX3_deep cX3_deep 4 (some .int), Cond.methodLink RX3 148 yX3_bringBack, Cond.instanceMethod yX3_bringBack, Cond.selects RX3 yX3_bringBack yX3_bringBack, Cond.code yX3_bringBack cX3_bringBack 1 none]
def wsX3_depthBehind : List Cond := .code yX3_depthBehind cX3_depthBehind 7 (some .int) :: ((wsX3_depthBehind_r1 ++ (wsX3_depthBehind_r2 ++ wsX3_depthBehind_r3)) ++ wsX30)
def wsX3_heightBehind_r1 : List Cond := [Cond.methodLink RX3 139 yX3_asked, Cond.instanceMethod yX3_asked, Cond.selects RX3 yX3_asked yX3_asked, Cond.initialized RX3, Cond.code yX3_asked cX3_asked 4 (some .int), Cond.fieldLink RX3 16 "SplayOrchardModel" "thrown" "I", Cond.methodLink RX3 88 yX3_isRow, Cond.static yX3_isRow, Cond.code yX3_isRow cX3_isRow 1 (some .boolean), Cond.methodLink RX3 92 yX3_no, Cond.instanceMethod yX3_no, Cond.selects RX3 yX3_no yX3_no, Cond.code yX3_no cX3_no 2 (some .int), Cond.methodLink RX3 98 yX3_find, Cond.instanceMethod yX3_find, Cond.selects RX3 yX3_find yX3_find, Cond.code yX3_find cX3_find 4 (some .int), Cond.fieldLink RX3 9 "SplayOrchardModel" "now" "[I", Cond.methodLink RX3 145 yX3_keep, Cond.instanceMethod yX3_keep, Cond.selects RX3 yX3_keep yX3_keep, Cond.code yX3_keep cX3_keep 1 none, Cond.fieldLink RX3 13 "SplayOrchardModel" "kept" "[I", Cond.methodLink RX3 20 arraycopyName]
def wsX3_heightBehind_r2 : List Cond := [Cond.native arraycopyName, Cond.static arraycopyName, Cond.initialized "java/lang/System", Cond.fieldLink RX3 26 "SplayOrchardModel" "turned" "I", Cond.fieldLink RX3 29 "SplayOrchardModel" "keptTurned" "I", Cond.methodLink RX3 47 yX3_raise, Cond.instanceMethod yX3_raise, Cond.selects RX3 yX3_raise yX3_raise, Cond.code yX3_raise cX3_raise 3 none, Cond.methodLink RX3 32 yX3_sideOf, Cond.instanceMethod yX3_sideOf, Cond.selects RX3 yX3_sideOf yX3_sideOf, Cond.code yX3_sideOf cX3_sideOf 2 (some .int), Cond.methodLink RX3 43 yX3_turn, Cond.instanceMethod yX3_turn, Cond.selects RX3 yX3_turn yX3_turn, Cond.code yX3_turn cX3_turn 6 none, Cond.methodLink RX3 36 yX3_across, Cond.static yX3_across, Cond.code yX3_across cX3_across 1 (some .int), Cond.methodLink RX3 39 yX3_hang, Cond.instanceMethod yX3_hang, Cond.selects RX3 yX3_hang yX3_hang, Cond.code yX3_hang cX3_hang 4 none]
def wsX3_heightBehind_r3 : List Cond := [Cond.methodLink RX3 53 yX3_high, Cond.instanceMethod yX3_high, Cond.selects RX3 yX3_high yX3_high, Cond.code yX3_high cX3_high 2 (some .int), Cond.methodLink RX3 56 Lib.Math.max.name, Cond.static Lib.Math.max.name, Cond.initialized "java/lang/Math", Cond.code Lib.Math.max.name Lib.Math.max.code 2 (some .int), Cond.methodLink RX3 148 yX3_bringBack, Cond.instanceMethod yX3_bringBack, Cond.selects RX3 yX3_bringBack yX3_bringBack, Cond.code yX3_bringBack cX3_bringBack 1 none]
def wsX3_heightBehind : List Cond := .code yX3_heightBehind cX3_heightBehind 5 (some .int) :: ((wsX3_heightBehind_r1 ++ (wsX3_heightBehind_r2 ++ wsX3_heightBehind_r3)) ++ wsX30)
def wsX3_best_r1 : List Cond := [Cond.fieldLink RX3 9 "SplayOrchardModel" "now" "[I", Cond.methodLink RX3 50 yX3_count, Cond.instanceMethod yX3_count, Cond.selects RX3 yX3_count yX3_count, Cond.initialized RX3, Cond.code yX3_count cX3_count 2 (some .int), Cond.methodLink RX3 71 yX3_nth, Cond.instanceMethod yX3_nth, Cond.selects RX3 yX3_nth yX3_nth, Cond.code yX3_nth cX3_nth 4 (some .int), Cond.methodLink RX3 145 yX3_keep, Cond.instanceMethod yX3_keep, Cond.selects RX3 yX3_keep yX3_keep, Cond.code yX3_keep cX3_keep 1 none, Cond.fieldLink RX3 13 "SplayOrchardModel" "kept" "[I", Cond.methodLink RX3 20 arraycopyName, Cond.native arraycopyName, Cond.static arraycopyName, Cond.initialized "java/lang/System", Cond.fieldLink RX3 26 "SplayOrchardModel" "turned" "I", Cond.fieldLink RX3 29 "SplayOrchardModel" "keptTurned" "I", Cond.methodLink RX3 47 yX3_raise, Cond.instanceMethod yX3_raise, Cond.selects RX3 yX3_raise yX3_raise]
def wsX3_best_r2 : List Cond := [Cond.code yX3_raise cX3_raise 3 none, Cond.methodLink RX3 32 yX3_sideOf, Cond.instanceMethod yX3_sideOf, Cond.selects RX3 yX3_sideOf yX3_sideOf, Cond.code yX3_sideOf cX3_sideOf 2 (some .int), Cond.methodLink RX3 43 yX3_turn, Cond.instanceMethod yX3_turn, Cond.selects RX3 yX3_turn yX3_turn, Cond.code yX3_turn cX3_turn 6 none, Cond.methodLink RX3 36 yX3_across, Cond.static yX3_across, Cond.code yX3_across cX3_across 1 (some .int), Cond.methodLink RX3 39 yX3_hang, Cond.instanceMethod yX3_hang, Cond.selects RX3 yX3_hang yX3_hang, Cond.code yX3_hang cX3_hang 4 none, Cond.methodLink RX3 62 yX3_depthsOf, Cond.instanceMethod yX3_depthsOf, Cond.selects RX3 yX3_depthsOf yX3_depthsOf, Cond.code yX3_depthsOf cX3_depthsOf 3 (some .int), Cond.methodLink RX3 148 yX3_bringBack, Cond.instanceMethod yX3_bringBack, Cond.selects RX3 yX3_bringBack yX3_bringBack, Cond.code yX3_bringBack cX3_bringBack 1 none]
def wsX3_best_r3 : List Cond := [Cond.methodLink RX3 130 yX3_sizeAt, Cond.instanceMethod yX3_sizeAt, Cond.selects RX3 yX3_sizeAt yX3_sizeAt, Cond.code yX3_sizeAt cX3_sizeAt 2 (some .int)]
def wsX3_best : List Cond := .code yX3_best cX3_best 7 (some .int) :: ((wsX3_best_r1 ++ (wsX3_best_r2 ++ wsX3_best_r3)) ++ wsX30)
def wsX3_bestToEat_r1 : List Cond := [Cond.fieldLink RX3 16 "SplayOrchardModel" "thrown" "I", Cond.methodLink RX3 88 yX3_isRow, Cond.static yX3_isRow, Cond.initialized RX3, Cond.code yX3_isRow cX3_isRow 1 (some .boolean), Cond.methodLink RX3 151 yX3_best, Cond.instanceMethod yX3_best, Cond.selects RX3 yX3_best yX3_best, Cond.code yX3_best cX3_best 7 (some .int), Cond.fieldLink RX3 9 "SplayOrchardModel" "now" "[I", Cond.methodLink RX3 50 yX3_count, Cond.instanceMethod yX3_count, Cond.selects RX3 yX3_count yX3_count, Cond.code yX3_count cX3_count 2 (some .int), Cond.methodLink RX3 71 yX3_nth, Cond.instanceMethod yX3_nth, Cond.selects RX3 yX3_nth yX3_nth, Cond.code yX3_nth cX3_nth 4 (some .int), Cond.methodLink RX3 145 yX3_keep, Cond.instanceMethod yX3_keep, Cond.selects RX3 yX3_keep yX3_keep, Cond.code yX3_keep cX3_keep 1 none, Cond.fieldLink RX3 13 "SplayOrchardModel" "kept" "[I", Cond.methodLink RX3 20 arraycopyName]
def wsX3_bestToEat_r2 : List Cond := [Cond.native arraycopyName, Cond.static arraycopyName, Cond.initialized "java/lang/System", Cond.fieldLink RX3 26 "SplayOrchardModel" "turned" "I", Cond.fieldLink RX3 29 "SplayOrchardModel" "keptTurned" "I", Cond.methodLink RX3 47 yX3_raise, Cond.instanceMethod yX3_raise, Cond.selects RX3 yX3_raise yX3_raise, Cond.code yX3_raise cX3_raise 3 none, Cond.methodLink RX3 32 yX3_sideOf, Cond.instanceMethod yX3_sideOf, Cond.selects RX3 yX3_sideOf yX3_sideOf, Cond.code yX3_sideOf cX3_sideOf 2 (some .int), Cond.methodLink RX3 43 yX3_turn, Cond.instanceMethod yX3_turn, Cond.selects RX3 yX3_turn yX3_turn, Cond.code yX3_turn cX3_turn 6 none, Cond.methodLink RX3 36 yX3_across, Cond.static yX3_across, Cond.code yX3_across cX3_across 1 (some .int), Cond.methodLink RX3 39 yX3_hang, Cond.instanceMethod yX3_hang, Cond.selects RX3 yX3_hang yX3_hang, Cond.code yX3_hang cX3_hang 4 none]
def wsX3_bestToEat_r3 : List Cond := [Cond.methodLink RX3 62 yX3_depthsOf, Cond.instanceMethod yX3_depthsOf, Cond.selects RX3 yX3_depthsOf yX3_depthsOf, Cond.code yX3_depthsOf cX3_depthsOf 3 (some .int), Cond.methodLink RX3 148 yX3_bringBack, Cond.instanceMethod yX3_bringBack, Cond.selects RX3 yX3_bringBack yX3_bringBack, Cond.code yX3_bringBack cX3_bringBack 1 none, Cond.methodLink RX3 130 yX3_sizeAt, Cond.instanceMethod yX3_sizeAt, Cond.selects RX3 yX3_sizeAt yX3_sizeAt, Cond.code yX3_sizeAt cX3_sizeAt 2 (some .int), Cond.methodLink RX3 92 yX3_no, Cond.instanceMethod yX3_no, Cond.selects RX3 yX3_no yX3_no, Cond.code yX3_no cX3_no 2 (some .int)]
def wsX3_bestToEat : List Cond := .code yX3_bestToEat cX3_bestToEat 2 (some .int) :: ((wsX3_bestToEat_r1 ++ (wsX3_bestToEat_r2 ++ wsX3_bestToEat_r3)) ++ wsX30)
def wsX3_plantDepth : List Cond := .code yX3_plantDepth cX3_plantDepth 3 (some .int) :: ([.fieldLink RX3 16 "SplayOrchardModel" "thrown" "I", .methodLink RX3 88 yX3_isRow, .static yX3_isRow, .initialized RX3, .code yX3_isRow cX3_isRow 1 (some .boolean), .methodLink RX3 92 yX3_no, .instanceMethod yX3_no, .selects RX3 yX3_no yX3_no, .code yX3_no cX3_no 2 (some .int), .methodLink RX3 95 yX3_isSize, .static yX3_isSize, .code yX3_isSize cX3_isSize 1 (some .boolean), .methodLink RX3 154 yX3_plantDeep, .instanceMethod yX3_plantDeep, .selects RX3 yX3_plantDeep yX3_plantDeep, .code yX3_plantDeep cX3_plantDeep 5 (some .int), .fieldLink RX3 9 "SplayOrchardModel" "now" "[I"] ++ wsX30)
def wsX3_canJoin : List Cond := .code yX3_canJoin cX3_canJoin 3 (some .boolean) :: ([.fieldLink RX3 16 "SplayOrchardModel" "thrown" "I", .methodLink RX3 88 yX3_isRow, .static yX3_isRow, .initialized RX3, .code yX3_isRow cX3_isRow 1 (some .boolean), .methodLink RX3 123 yX3_fits, .instanceMethod yX3_fits, .selects RX3 yX3_fits yX3_fits, .code yX3_fits cX3_fits 3 (some .boolean), .fieldLink RX3 9 "SplayOrchardModel" "now" "[I", .methodLink RX3 107 yX3_end, .instanceMethod yX3_end, .selects RX3 yX3_end yX3_end, .code yX3_end cX3_end 4 (some .int), .methodLink RX3 136 yX3_isNot, .instanceMethod yX3_isNot, .selects RX3 yX3_isNot yX3_isNot, .code yX3_isNot cX3_isNot 2 (some .boolean)] ++ wsX30)
def wsX3_meanDepth : List Cond := .code yX3_meanDepth cX3_meanDepth 2 (some .double) :: ([.fieldLink RX3 16 "SplayOrchardModel" "thrown" "I", .fieldLink RX3 9 "SplayOrchardModel" "now" "[I", .methodLink RX3 88 yX3_isRow, .static yX3_isRow, .initialized RX3, .code yX3_isRow cX3_isRow 1 (some .boolean), .methodLink RX3 62 yX3_depthsOf, .instanceMethod yX3_depthsOf, .selects RX3 yX3_depthsOf yX3_depthsOf, .code yX3_depthsOf cX3_depthsOf 3 (some .int), .methodLink RX3 50 yX3_count, .instanceMethod yX3_count, .selects RX3 yX3_count yX3_count, .code yX3_count cX3_count 2 (some .int)] ++ wsX30)
def wsX3_digest_r1 : List Cond := [Cond.fieldLink RX3 16 "SplayOrchardModel" "thrown" "I", Cond.constantLong RX3 157 (72509), Cond.fieldLink RX3 78 "SplayOrchardModel" "many" "I", Cond.constantLong RX3 159 (31), Cond.fieldLink RX3 26 "SplayOrchardModel" "turned" "I", Cond.fieldLink RX3 9 "SplayOrchardModel" "now" "[I", Cond.methodLink RX3 50 yX3_count, Cond.instanceMethod yX3_count, Cond.selects RX3 yX3_count yX3_count, Cond.initialized RX3, Cond.code yX3_count cX3_count 2 (some .int), Cond.methodLink RX3 130 yX3_sizeAt, Cond.instanceMethod yX3_sizeAt, Cond.selects RX3 yX3_sizeAt yX3_sizeAt, Cond.code yX3_sizeAt cX3_sizeAt 2 (some .int), Cond.methodLink RX3 53 yX3_high, Cond.instanceMethod yX3_high, Cond.selects RX3 yX3_high yX3_high, Cond.code yX3_high cX3_high 2 (some .int), Cond.methodLink RX3 56 Lib.Math.max.name, Cond.static Lib.Math.max.name, Cond.initialized "java/lang/Math", Cond.code Lib.Math.max.name Lib.Math.max.code 2 (some .int), Cond.methodLink RX3 133 yX3_lowest]
def wsX3_digest_r2 : List Cond := [Cond.instanceMethod yX3_lowest, Cond.selects RX3 yX3_lowest yX3_lowest, Cond.code yX3_lowest cX3_lowest 4 (some .int), Cond.methodLink RX3 62 yX3_depthsOf, Cond.instanceMethod yX3_depthsOf, Cond.selects RX3 yX3_depthsOf yX3_depthsOf, Cond.code yX3_depthsOf cX3_depthsOf 3 (some .int), Cond.methodLink RX3 65 yX3_ends, Cond.instanceMethod yX3_ends, Cond.selects RX3 yX3_ends yX3_ends, Cond.code yX3_ends cX3_ends 2 (some .int), Cond.methodLink RX3 142 yX3_liked, Cond.instanceMethod yX3_liked, Cond.selects RX3 yX3_liked yX3_liked, Cond.code yX3_liked cX3_liked 5 (some .int), Cond.methodLink RX3 71 yX3_nth, Cond.instanceMethod yX3_nth, Cond.selects RX3 yX3_nth yX3_nth, Cond.code yX3_nth cX3_nth 4 (some .int), Cond.methodLink RX3 151 yX3_best, Cond.instanceMethod yX3_best, Cond.selects RX3 yX3_best yX3_best, Cond.code yX3_best cX3_best 7 (some .int), Cond.methodLink RX3 145 yX3_keep]
def wsX3_digest_r3 : List Cond := [Cond.instanceMethod yX3_keep, Cond.selects RX3 yX3_keep yX3_keep, Cond.code yX3_keep cX3_keep 1 none, Cond.fieldLink RX3 13 "SplayOrchardModel" "kept" "[I", Cond.methodLink RX3 20 arraycopyName, Cond.native arraycopyName, Cond.static arraycopyName, Cond.initialized "java/lang/System", Cond.fieldLink RX3 29 "SplayOrchardModel" "keptTurned" "I", Cond.methodLink RX3 47 yX3_raise, Cond.instanceMethod yX3_raise, Cond.selects RX3 yX3_raise yX3_raise, Cond.code yX3_raise cX3_raise 3 none, Cond.methodLink RX3 32 yX3_sideOf, Cond.instanceMethod yX3_sideOf, Cond.selects RX3 yX3_sideOf yX3_sideOf, Cond.code yX3_sideOf cX3_sideOf 2 (some .int), Cond.methodLink RX3 43 yX3_turn, Cond.instanceMethod yX3_turn, Cond.selects RX3 yX3_turn yX3_turn, Cond.code yX3_turn cX3_turn 6 none, Cond.methodLink RX3 36 yX3_across, Cond.static yX3_across, Cond.code yX3_across cX3_across 1 (some .int)]
def wsX3_digest_r4 : List Cond := [Cond.methodLink RX3 39 yX3_hang, Cond.instanceMethod yX3_hang, Cond.selects RX3 yX3_hang yX3_hang, Cond.code yX3_hang cX3_hang 4 none, Cond.methodLink RX3 148 yX3_bringBack, Cond.instanceMethod yX3_bringBack, Cond.selects RX3 yX3_bringBack yX3_bringBack, Cond.code yX3_bringBack cX3_bringBack 1 none, Cond.methodLink RX3 81 yX3_deep, Cond.instanceMethod yX3_deep, Cond.selects RX3 yX3_deep yX3_deep, Cond.code yX3_deep cX3_deep 4 (some .int)]
def wsX3_digest : List Cond := .code yX3_digest cX3_digest 7 (some .long) :: ((wsX3_digest_r1 ++ (wsX3_digest_r2 ++ (wsX3_digest_r3 ++ wsX3_digest_r4))) ++ wsX30)
def wsJ9_max_7cf53 : List Cond := .code yJ9_max_7cf53 cJ9_max_7cf53 2 (some .int) :: ([])
def wsJ9_min_7cf53 : List Cond := .code yJ9_min_7cf53 cJ9_min_7cf53 2 (some .int) :: ([])
def wsL_plant_r1 : List Cond := [Cond.classLink RL 13 "java/lang/IndexOutOfBoundsException", Cond.classLink RL 15 "java/lang/IllegalArgumentException", Cond.classLink RL 17 "java/lang/IllegalStateException", Cond.methodLink RL 7 yX2_plant, Cond.instanceMethod yX2_plant, Cond.selects RX2 yX2_plant yX2_plant, Cond.initialized RX2, Cond.code yX2_plant cX2_plant 5 (some .int), Cond.classLink RX2 32 "java/lang/IllegalStateException", Cond.initialized "java/lang/IllegalStateException", Cond.classLink RX2 45 RX0, Cond.instantiable RX0 6, Cond.initialized RX0, Cond.methodLink RX2 20 yX2_treeOf, Cond.instanceMethod yX2_treeOf, Cond.selects RX2 yX2_treeOf yX2_treeOf, Cond.code yX2_treeOf cX2_treeOf 2 (some (.object "SplayOrchard$Tree")), Cond.classLink RX2 125 "java/lang/IndexOutOfBoundsException", Cond.initialized "java/lang/IndexOutOfBoundsException", Cond.fieldLink RX2 11 "SplayOrchard" "rows" "[LSplayOrchard$Tree;", Cond.methodLink RX2 24 yX2_checkSize, Cond.static yX2_checkSize, Cond.code yX2_checkSize cX2_checkSize 1 none, Cond.classLink RX2 208 "java/lang/IllegalArgumentException"]
def wsL_plant_r2 : List Cond := [Cond.initialized "java/lang/IllegalArgumentException", Cond.methodLink RX2 28 yX2_apples, Cond.instanceMethod yX2_apples, Cond.selects RX2 yX2_apples yX2_apples, Cond.code yX2_apples cX2_apples 6 (some .int), Cond.methodLink RX2 93 yX1_count, Cond.instanceMethod yX1_count, Cond.selects RX1 yX1_count yX1_count, Cond.initialized RX1, Cond.code yX1_count cX1_count 1 (some .int), Cond.fieldLink RX1 7 "SplayOrchard$Tree" "top" "LSplayOrchard$Apple;", Cond.methodLink RX1 63 yX0_countUnder, Cond.instanceMethod yX0_countUnder, Cond.selects RX0 yX0_countUnder yX0_countUnder, Cond.code yX0_countUnder cX0_countUnder 4 (some .int), Cond.methodLink RX0 41 yX0_greatestUnder, Cond.instanceMethod yX0_greatestUnder, Cond.selects RX0 yX0_greatestUnder yX0_greatestUnder, Cond.code yX0_greatestUnder cX0_greatestUnder 2 (some (.object "SplayOrchard$Apple")), Cond.fieldLink RX0 23 "SplayOrchard$Apple" "right" "LSplayOrchard$Apple;", Cond.methodLink RX0 37 yX0_leastUnder, Cond.instanceMethod yX0_leastUnder, Cond.selects RX0 yX0_leastUnder yX0_leastUnder, Cond.code yX0_leastUnder cX0_leastUnder 2 (some (.object "SplayOrchard$Apple"))]
def wsL_plant_r3 : List Cond := [Cond.fieldLink RX0 17 "SplayOrchard$Apple" "left" "LSplayOrchard$Apple;", Cond.methodLink RX0 44 yX0_next, Cond.instanceMethod yX0_next, Cond.selects RX0 yX0_next yX0_next, Cond.code yX0_next cX0_next 2 (some (.object "SplayOrchard$Apple")), Cond.fieldLink RX0 20 "SplayOrchard$Apple" "up" "LSplayOrchard$Apple;", Cond.methodLink RX2 39 yX1_find, Cond.instanceMethod yX1_find, Cond.selects RX1 yX1_find yX1_find, Cond.code yX1_find cX1_find 3 (some (.object "SplayOrchard$Apple")), Cond.fieldLink RX1 32 "SplayOrchard$Apple" "size" "I", Cond.methodLink RX1 29 yX1_nearest, Cond.instanceMethod yX1_nearest, Cond.selects RX1 yX1_nearest yX1_nearest, Cond.code yX1_nearest cX1_nearest 4 (some (.object "SplayOrchard$Apple")), Cond.methodLink RX1 25 yX0_towards, Cond.instanceMethod yX0_towards, Cond.selects RX0 yX0_towards yX0_towards, Cond.code yX0_towards cX0_towards 2 (some (.object "SplayOrchard$Apple")), Cond.fieldLink RX0 7 "SplayOrchard$Apple" "size" "I", Cond.methodLink RX2 47 yX0_init, Cond.instanceMethod yX0_init, Cond.code yX0_init cX0_init 3 none, Cond.methodLink RX0 1 objectInit]
def wsL_plant_r4 : List Cond := [Cond.instanceMethod objectInit, Cond.code objectInit ⟨#[0xb1]⟩ 1 none, Cond.fieldLink RX0 13 "SplayOrchard$Apple" "standIn" "LSplayOrchard$Apple;", Cond.methodLink RX2 50 yX1_hang, Cond.instanceMethod yX1_hang, Cond.selects RX1 yX1_hang yX1_hang, Cond.code yX1_hang cX1_hang 3 none, Cond.methodLink RX1 36 yX1_setTop, Cond.instanceMethod yX1_setTop, Cond.selects RX1 yX1_setTop yX1_setTop, Cond.code yX1_setTop cX1_setTop 2 none, Cond.fieldLink RX1 13 "SplayOrchard$Apple" "up" "LSplayOrchard$Apple;", Cond.methodLink RX1 40 yX0_hangLeft, Cond.instanceMethod yX0_hangLeft, Cond.selects RX0 yX0_hangLeft yX0_hangLeft, Cond.code yX0_hangLeft cX0_hangLeft 2 none, Cond.methodLink RX1 43 yX0_hangRight, Cond.instanceMethod yX0_hangRight, Cond.selects RX0 yX0_hangRight yX0_hangRight, Cond.code yX0_hangRight cX0_hangRight 2 none, Cond.methodLink RX2 54 yX2_bringUp, Cond.instanceMethod yX2_bringUp, Cond.selects RX2 yX2_bringUp yX2_bringUp, Cond.code yX2_bringUp cX2_bringUp 4 (some .int)]
def wsL_plant_r5 : List Cond := [Cond.fieldLink RX2 102 "SplayOrchard" "turned" "I", Cond.methodLink RX2 215 yX1_bringUp, Cond.instanceMethod yX1_bringUp, Cond.selects RX1 yX1_bringUp yX1_bringUp, Cond.code yX1_bringUp cX1_bringUp 6 (some .int), Cond.methodLink RX1 46 yX0_depth, Cond.instanceMethod yX0_depth, Cond.selects RX0 yX0_depth yX0_depth, Cond.code yX0_depth cX0_depth 3 (some .int), Cond.methodLink RX1 50 yX0_isOnTheLeft, Cond.instanceMethod yX0_isOnTheLeft, Cond.selects RX0 yX0_isOnTheLeft yX0_isOnTheLeft, Cond.code yX0_isOnTheLeft cX0_isOnTheLeft 1 (some .boolean), Cond.methodLink RX1 54 yX0_turn, Cond.instanceMethod yX0_turn, Cond.selects RX0 yX0_turn yX0_turn, Cond.code yX0_turn cX0_turn 4 none, Cond.methodLink RX0 26 yX0_isOnTheLeft, Cond.methodLink RX0 30 yX0_hangLeft, Cond.methodLink RX0 34 yX0_hangRight]
def wsL_plant : List Cond := .codeWith yL_plant cL_plant 5 (some .int) [(0, 10, 13, 13), (0, 10, 17, 15), (0, 10, 21, 17)] :: ((wsL_plant_r1 ++ (wsL_plant_r2 ++ (wsL_plant_r3 ++ (wsL_plant_r4 ++ wsL_plant_r5)))) ++ wsX00 ++ wsX20 ++ wsX10 ++ (vx_atS RX2 36 "java/lang/IllegalStateException" ["java/lang/RuntimeException", "java/lang/Exception"]).filter goodWord ++ (vx_atS RX2 129 "java/lang/IndexOutOfBoundsException" ["java/lang/RuntimeException", "java/lang/Exception"]).filter goodWord ++ (vx_atS RX2 212 "java/lang/IllegalArgumentException" ["java/lang/RuntimeException", "java/lang/Exception"]).filter goodWord)
def wsL_eat_r1 : List Cond := [Cond.classLink RL 13 "java/lang/IndexOutOfBoundsException", Cond.classLink RL 17 "java/lang/IllegalStateException", Cond.methodLink RL 19 yX2_eat, Cond.instanceMethod yX2_eat, Cond.selects RX2 yX2_eat yX2_eat, Cond.initialized RX2, Cond.code yX2_eat cX2_eat 5 (some .int), Cond.fieldLink RX2 62 "SplayOrchard$Apple" "bites" "I", Cond.methodLink RX2 20 yX2_treeOf, Cond.instanceMethod yX2_treeOf, Cond.selects RX2 yX2_treeOf yX2_treeOf, Cond.code yX2_treeOf cX2_treeOf 2 (some (.object "SplayOrchard$Tree")), Cond.classLink RX2 125 "java/lang/IndexOutOfBoundsException", Cond.initialized "java/lang/IndexOutOfBoundsException", Cond.fieldLink RX2 11 "SplayOrchard" "rows" "[LSplayOrchard$Tree;", Cond.methodLink RX2 58 yX2_appleOf, Cond.static yX2_appleOf, Cond.code yX2_appleOf cX2_appleOf 3 (some (.object "SplayOrchard$Apple")), Cond.classLink RX2 32 "java/lang/IllegalStateException", Cond.initialized "java/lang/IllegalStateException", Cond.methodLink RX2 39 yX1_find, Cond.instanceMethod yX1_find, Cond.selects RX1 yX1_find yX1_find, Cond.initialized RX1]
def wsL_eat_r2 : List Cond := [Cond.code yX1_find cX1_find 3 (some (.object "SplayOrchard$Apple")), Cond.fieldLink RX1 32 "SplayOrchard$Apple" "size" "I", Cond.methodLink RX1 29 yX1_nearest, Cond.instanceMethod yX1_nearest, Cond.selects RX1 yX1_nearest yX1_nearest, Cond.code yX1_nearest cX1_nearest 4 (some (.object "SplayOrchard$Apple")), Cond.fieldLink RX1 7 "SplayOrchard$Tree" "top" "LSplayOrchard$Apple;", Cond.methodLink RX1 25 yX0_towards, Cond.instanceMethod yX0_towards, Cond.selects RX0 yX0_towards yX0_towards, Cond.initialized RX0, Cond.code yX0_towards cX0_towards 2 (some (.object "SplayOrchard$Apple")), Cond.fieldLink RX0 7 "SplayOrchard$Apple" "size" "I", Cond.fieldLink RX0 17 "SplayOrchard$Apple" "left" "LSplayOrchard$Apple;", Cond.fieldLink RX0 23 "SplayOrchard$Apple" "right" "LSplayOrchard$Apple;", Cond.methodLink RX2 54 yX2_bringUp, Cond.instanceMethod yX2_bringUp, Cond.selects RX2 yX2_bringUp yX2_bringUp, Cond.code yX2_bringUp cX2_bringUp 4 (some .int), Cond.fieldLink RX2 102 "SplayOrchard" "turned" "I", Cond.methodLink RX2 215 yX1_bringUp, Cond.instanceMethod yX1_bringUp, Cond.selects RX1 yX1_bringUp yX1_bringUp, Cond.code yX1_bringUp cX1_bringUp 6 (some .int)]
def wsL_eat_r3 : List Cond := [Cond.fieldLink RX1 13 "SplayOrchard$Apple" "up" "LSplayOrchard$Apple;", Cond.methodLink RX1 46 yX0_depth, Cond.instanceMethod yX0_depth, Cond.selects RX0 yX0_depth yX0_depth, Cond.code yX0_depth cX0_depth 3 (some .int), Cond.fieldLink RX0 20 "SplayOrchard$Apple" "up" "LSplayOrchard$Apple;", Cond.methodLink RX1 50 yX0_isOnTheLeft, Cond.instanceMethod yX0_isOnTheLeft, Cond.selects RX0 yX0_isOnTheLeft yX0_isOnTheLeft, Cond.code yX0_isOnTheLeft cX0_isOnTheLeft 1 (some .boolean), Cond.methodLink RX1 54 yX0_turn, Cond.instanceMethod yX0_turn, Cond.selects RX0 yX0_turn yX0_turn, Cond.code yX0_turn cX0_turn 4 none, Cond.methodLink RX0 26 yX0_isOnTheLeft, Cond.methodLink RX0 30 yX0_hangLeft, Cond.instanceMethod yX0_hangLeft, Cond.selects RX0 yX0_hangLeft yX0_hangLeft, Cond.code yX0_hangLeft cX0_hangLeft 2 none, Cond.methodLink RX0 34 yX0_hangRight, Cond.instanceMethod yX0_hangRight, Cond.selects RX0 yX0_hangRight yX0_hangRight, Cond.code yX0_hangRight cX0_hangRight 2 none]
def wsL_eat : List Cond := .codeWith yL_eat cL_eat 5 (some .int) [(0, 10, 13, 13), (0, 10, 17, 17)] :: ((wsL_eat_r1 ++ (wsL_eat_r2 ++ wsL_eat_r3)) ++ wsX00 ++ wsX20 ++ wsX10 ++ (vx_atS RX2 129 "java/lang/IndexOutOfBoundsException" ["java/lang/RuntimeException", "java/lang/Exception"]).filter goodWord ++ (vx_atS RX2 36 "java/lang/IllegalStateException" ["java/lang/RuntimeException", "java/lang/Exception"]).filter goodWord)
def wsL_pick_r1 : List Cond := [Cond.classLink RL 13 "java/lang/IndexOutOfBoundsException", Cond.classLink RL 17 "java/lang/IllegalStateException", Cond.methodLink RL 22 yX2_pick, Cond.instanceMethod yX2_pick, Cond.selects RX2 yX2_pick yX2_pick, Cond.initialized RX2, Cond.code yX2_pick cX2_pick 5 (some .int), Cond.fieldLink RX2 66 "SplayOrchard$Apple" "left" "LSplayOrchard$Apple;", Cond.fieldLink RX2 73 "SplayOrchard$Apple" "right" "LSplayOrchard$Apple;", Cond.fieldLink RX2 62 "SplayOrchard$Apple" "bites" "I", Cond.methodLink RX2 20 yX2_treeOf, Cond.instanceMethod yX2_treeOf, Cond.selects RX2 yX2_treeOf yX2_treeOf, Cond.code yX2_treeOf cX2_treeOf 2 (some (.object "SplayOrchard$Tree")), Cond.classLink RX2 125 "java/lang/IndexOutOfBoundsException", Cond.initialized "java/lang/IndexOutOfBoundsException", Cond.fieldLink RX2 11 "SplayOrchard" "rows" "[LSplayOrchard$Tree;", Cond.methodLink RX2 58 yX2_appleOf, Cond.static yX2_appleOf, Cond.code yX2_appleOf cX2_appleOf 3 (some (.object "SplayOrchard$Apple")), Cond.classLink RX2 32 "java/lang/IllegalStateException", Cond.initialized "java/lang/IllegalStateException", Cond.methodLink RX2 39 yX1_find, Cond.instanceMethod yX1_find]
def wsL_pick_r2 : List Cond := [Cond.selects RX1 yX1_find yX1_find, Cond.initialized RX1, Cond.code yX1_find cX1_find 3 (some (.object "SplayOrchard$Apple")), Cond.fieldLink RX1 32 "SplayOrchard$Apple" "size" "I", Cond.methodLink RX1 29 yX1_nearest, Cond.instanceMethod yX1_nearest, Cond.selects RX1 yX1_nearest yX1_nearest, Cond.code yX1_nearest cX1_nearest 4 (some (.object "SplayOrchard$Apple")), Cond.fieldLink RX1 7 "SplayOrchard$Tree" "top" "LSplayOrchard$Apple;", Cond.methodLink RX1 25 yX0_towards, Cond.instanceMethod yX0_towards, Cond.selects RX0 yX0_towards yX0_towards, Cond.initialized RX0, Cond.code yX0_towards cX0_towards 2 (some (.object "SplayOrchard$Apple")), Cond.fieldLink RX0 7 "SplayOrchard$Apple" "size" "I", Cond.fieldLink RX0 17 "SplayOrchard$Apple" "left" "LSplayOrchard$Apple;", Cond.fieldLink RX0 23 "SplayOrchard$Apple" "right" "LSplayOrchard$Apple;", Cond.methodLink RX2 54 yX2_bringUp, Cond.instanceMethod yX2_bringUp, Cond.selects RX2 yX2_bringUp yX2_bringUp, Cond.code yX2_bringUp cX2_bringUp 4 (some .int), Cond.fieldLink RX2 102 "SplayOrchard" "turned" "I", Cond.methodLink RX2 215 yX1_bringUp, Cond.instanceMethod yX1_bringUp]
def wsL_pick_r3 : List Cond := [Cond.selects RX1 yX1_bringUp yX1_bringUp, Cond.code yX1_bringUp cX1_bringUp 6 (some .int), Cond.fieldLink RX1 13 "SplayOrchard$Apple" "up" "LSplayOrchard$Apple;", Cond.methodLink RX1 46 yX0_depth, Cond.instanceMethod yX0_depth, Cond.selects RX0 yX0_depth yX0_depth, Cond.code yX0_depth cX0_depth 3 (some .int), Cond.fieldLink RX0 20 "SplayOrchard$Apple" "up" "LSplayOrchard$Apple;", Cond.methodLink RX1 50 yX0_isOnTheLeft, Cond.instanceMethod yX0_isOnTheLeft, Cond.selects RX0 yX0_isOnTheLeft yX0_isOnTheLeft, Cond.code yX0_isOnTheLeft cX0_isOnTheLeft 1 (some .boolean), Cond.methodLink RX1 54 yX0_turn, Cond.instanceMethod yX0_turn, Cond.selects RX0 yX0_turn yX0_turn, Cond.code yX0_turn cX0_turn 4 none, Cond.methodLink RX0 26 yX0_isOnTheLeft, Cond.methodLink RX0 30 yX0_hangLeft, Cond.instanceMethod yX0_hangLeft, Cond.selects RX0 yX0_hangLeft yX0_hangLeft, Cond.code yX0_hangLeft cX0_hangLeft 2 none, Cond.methodLink RX0 34 yX0_hangRight, Cond.instanceMethod yX0_hangRight, Cond.selects RX0 yX0_hangRight yX0_hangRight]
def wsL_pick_r4 : List Cond := [Cond.code yX0_hangRight cX0_hangRight 2 none, Cond.methodLink RX2 70 yX1_setTop, Cond.instanceMethod yX1_setTop, Cond.selects RX1 yX1_setTop yX1_setTop, Cond.code yX1_setTop cX1_setTop 2 none, Cond.methodLink RX2 76 yX2_append, Cond.instanceMethod yX2_append, Cond.selects RX2 yX2_append yX2_append, Cond.code yX2_append cX2_append 4 none, Cond.methodLink RX2 119 yX1_last, Cond.instanceMethod yX1_last, Cond.selects RX1 yX1_last yX1_last, Cond.code yX1_last cX1_last 1 (some (.object "SplayOrchard$Apple")), Cond.methodLink RX1 22 yX0_greatestUnder, Cond.instanceMethod yX0_greatestUnder, Cond.selects RX0 yX0_greatestUnder yX0_greatestUnder, Cond.code yX0_greatestUnder cX0_greatestUnder 2 (some (.object "SplayOrchard$Apple")), Cond.methodLink RX2 90 yX0_hangRight]
def wsL_pick : List Cond := .codeWith yL_pick cL_pick 5 (some .int) [(0, 10, 13, 13), (0, 10, 17, 17)] :: ((wsL_pick_r1 ++ (wsL_pick_r2 ++ (wsL_pick_r3 ++ wsL_pick_r4))) ++ wsX00 ++ wsX20 ++ wsX10 ++ (vx_atS RX2 129 "java/lang/IndexOutOfBoundsException" ["java/lang/RuntimeException", "java/lang/Exception"]).filter goodWord ++ (vx_atS RX2 36 "java/lang/IllegalStateException" ["java/lang/RuntimeException", "java/lang/Exception"]).filter goodWord)
def wsL_split_r1 : List Cond := [Cond.classLink RL 13 "java/lang/IndexOutOfBoundsException", Cond.classLink RL 15 "java/lang/IllegalArgumentException", Cond.classLink RL 17 "java/lang/IllegalStateException", Cond.methodLink RL 25 yX2_split, Cond.instanceMethod yX2_split, Cond.selects RX2 yX2_split yX2_split, Cond.initialized RX2, Cond.code yX2_split cX2_split 7 (some .int), Cond.classLink RX2 32 "java/lang/IllegalStateException", Cond.initialized "java/lang/IllegalStateException", Cond.fieldLink RX2 82 "SplayOrchard$Tree" "top" "LSplayOrchard$Apple;", Cond.fieldLink RX2 73 "SplayOrchard$Apple" "right" "LSplayOrchard$Apple;", Cond.methodLink RX2 20 yX2_treeOf, Cond.instanceMethod yX2_treeOf, Cond.selects RX2 yX2_treeOf yX2_treeOf, Cond.code yX2_treeOf cX2_treeOf 2 (some (.object "SplayOrchard$Tree")), Cond.classLink RX2 125 "java/lang/IndexOutOfBoundsException", Cond.initialized "java/lang/IndexOutOfBoundsException", Cond.fieldLink RX2 11 "SplayOrchard" "rows" "[LSplayOrchard$Tree;", Cond.methodLink RX2 24 yX2_checkSize, Cond.static yX2_checkSize, Cond.code yX2_checkSize cX2_checkSize 1 none, Cond.classLink RX2 208 "java/lang/IllegalArgumentException", Cond.initialized "java/lang/IllegalArgumentException"]
def wsL_split_r2 : List Cond := [Cond.methodLink RX2 87 yX1_greatestBelow, Cond.instanceMethod yX1_greatestBelow, Cond.selects RX1 yX1_greatestBelow yX1_greatestBelow, Cond.initialized RX1, Cond.code yX1_greatestBelow cX1_greatestBelow 4 (some (.object "SplayOrchard$Apple")), Cond.fieldLink RX1 32 "SplayOrchard$Apple" "size" "I", Cond.methodLink RX1 57 yX1_first, Cond.instanceMethod yX1_first, Cond.selects RX1 yX1_first yX1_first, Cond.code yX1_first cX1_first 1 (some (.object "SplayOrchard$Apple")), Cond.fieldLink RX1 7 "SplayOrchard$Tree" "top" "LSplayOrchard$Apple;", Cond.methodLink RX1 18 yX0_leastUnder, Cond.instanceMethod yX0_leastUnder, Cond.selects RX0 yX0_leastUnder yX0_leastUnder, Cond.initialized RX0, Cond.code yX0_leastUnder cX0_leastUnder 2 (some (.object "SplayOrchard$Apple")), Cond.fieldLink RX0 17 "SplayOrchard$Apple" "left" "LSplayOrchard$Apple;", Cond.methodLink RX1 60 yX0_next, Cond.instanceMethod yX0_next, Cond.selects RX0 yX0_next yX0_next, Cond.code yX0_next cX0_next 2 (some (.object "SplayOrchard$Apple")), Cond.fieldLink RX0 23 "SplayOrchard$Apple" "right" "LSplayOrchard$Apple;", Cond.fieldLink RX0 20 "SplayOrchard$Apple" "up" "LSplayOrchard$Apple;", Cond.methodLink RX0 37 yX0_leastUnder]
def wsL_split_r3 : List Cond := [Cond.methodLink RX2 70 yX1_setTop, Cond.instanceMethod yX1_setTop, Cond.selects RX1 yX1_setTop yX1_setTop, Cond.code yX1_setTop cX1_setTop 2 none, Cond.fieldLink RX1 13 "SplayOrchard$Apple" "up" "LSplayOrchard$Apple;", Cond.methodLink RX2 54 yX2_bringUp, Cond.instanceMethod yX2_bringUp, Cond.selects RX2 yX2_bringUp yX2_bringUp, Cond.code yX2_bringUp cX2_bringUp 4 (some .int), Cond.fieldLink RX2 102 "SplayOrchard" "turned" "I", Cond.methodLink RX2 215 yX1_bringUp, Cond.instanceMethod yX1_bringUp, Cond.selects RX1 yX1_bringUp yX1_bringUp, Cond.code yX1_bringUp cX1_bringUp 6 (some .int), Cond.methodLink RX1 46 yX0_depth, Cond.instanceMethod yX0_depth, Cond.selects RX0 yX0_depth yX0_depth, Cond.code yX0_depth cX0_depth 3 (some .int), Cond.methodLink RX1 50 yX0_isOnTheLeft, Cond.instanceMethod yX0_isOnTheLeft, Cond.selects RX0 yX0_isOnTheLeft yX0_isOnTheLeft, Cond.code yX0_isOnTheLeft cX0_isOnTheLeft 1 (some .boolean), Cond.methodLink RX1 54 yX0_turn, Cond.instanceMethod yX0_turn]
def wsL_split_r4 : List Cond := [Cond.selects RX0 yX0_turn yX0_turn, Cond.code yX0_turn cX0_turn 4 none, Cond.methodLink RX0 26 yX0_isOnTheLeft, Cond.methodLink RX0 30 yX0_hangLeft, Cond.instanceMethod yX0_hangLeft, Cond.selects RX0 yX0_hangLeft yX0_hangLeft, Cond.code yX0_hangLeft cX0_hangLeft 2 none, Cond.methodLink RX0 34 yX0_hangRight, Cond.instanceMethod yX0_hangRight, Cond.selects RX0 yX0_hangRight yX0_hangRight, Cond.code yX0_hangRight cX0_hangRight 2 none, Cond.methodLink RX2 90 yX0_hangRight, Cond.methodLink RX2 93 yX1_count, Cond.instanceMethod yX1_count, Cond.selects RX1 yX1_count yX1_count, Cond.code yX1_count cX1_count 1 (some .int), Cond.methodLink RX1 63 yX0_countUnder, Cond.instanceMethod yX0_countUnder, Cond.selects RX0 yX0_countUnder yX0_countUnder, Cond.code yX0_countUnder cX0_countUnder 4 (some .int), Cond.methodLink RX0 41 yX0_greatestUnder, Cond.instanceMethod yX0_greatestUnder, Cond.selects RX0 yX0_greatestUnder yX0_greatestUnder, Cond.code yX0_greatestUnder cX0_greatestUnder 2 (some (.object "SplayOrchard$Apple"))]
def wsL_split_r5 : List Cond := [Cond.methodLink RX0 44 yX0_next]
def wsL_split : List Cond := .codeWith yL_split cL_split 6 (some .int) [(0, 12, 15, 13), (0, 12, 19, 15), (0, 12, 23, 17)] :: ((wsL_split_r1 ++ (wsL_split_r2 ++ (wsL_split_r3 ++ (wsL_split_r4 ++ wsL_split_r5)))) ++ wsX10 ++ wsX00 ++ wsX20 ++ (vx_atS RX2 36 "java/lang/IllegalStateException" ["java/lang/RuntimeException", "java/lang/Exception"]).filter goodWord ++ (vx_atS RX2 129 "java/lang/IndexOutOfBoundsException" ["java/lang/RuntimeException", "java/lang/Exception"]).filter goodWord ++ (vx_atS RX2 212 "java/lang/IllegalArgumentException" ["java/lang/RuntimeException", "java/lang/Exception"]).filter goodWord)
def wsL_join_r1 : List Cond := [Cond.classLink RL 13 "java/lang/IndexOutOfBoundsException", Cond.classLink RL 17 "java/lang/IllegalStateException", Cond.methodLink RL 29 yX2_join, Cond.instanceMethod yX2_join, Cond.selects RX2 yX2_join yX2_join, Cond.initialized RX2, Cond.code yX2_join cX2_join 5 (some .int), Cond.classLink RX2 32 "java/lang/IllegalStateException", Cond.initialized "java/lang/IllegalStateException", Cond.fieldLink RX2 82 "SplayOrchard$Tree" "top" "LSplayOrchard$Apple;", Cond.methodLink RX2 20 yX2_treeOf, Cond.instanceMethod yX2_treeOf, Cond.selects RX2 yX2_treeOf yX2_treeOf, Cond.code yX2_treeOf cX2_treeOf 2 (some (.object "SplayOrchard$Tree")), Cond.classLink RX2 125 "java/lang/IndexOutOfBoundsException", Cond.initialized "java/lang/IndexOutOfBoundsException", Cond.fieldLink RX2 11 "SplayOrchard" "rows" "[LSplayOrchard$Tree;", Cond.methodLink RX2 96 yX2_mayJoin, Cond.static yX2_mayJoin, Cond.code yX2_mayJoin cX2_mayJoin 4 (some .boolean), Cond.fieldLink RX2 130 "SplayOrchard$Apple" "size" "I", Cond.methodLink RX2 119 yX1_last, Cond.instanceMethod yX1_last, Cond.selects RX1 yX1_last yX1_last]
def wsL_join_r2 : List Cond := [Cond.initialized RX1, Cond.code yX1_last cX1_last 1 (some (.object "SplayOrchard$Apple")), Cond.fieldLink RX1 7 "SplayOrchard$Tree" "top" "LSplayOrchard$Apple;", Cond.methodLink RX1 22 yX0_greatestUnder, Cond.instanceMethod yX0_greatestUnder, Cond.selects RX0 yX0_greatestUnder yX0_greatestUnder, Cond.initialized RX0, Cond.code yX0_greatestUnder cX0_greatestUnder 2 (some (.object "SplayOrchard$Apple")), Cond.fieldLink RX0 23 "SplayOrchard$Apple" "right" "LSplayOrchard$Apple;", Cond.methodLink RX2 115 yX1_first, Cond.instanceMethod yX1_first, Cond.selects RX1 yX1_first yX1_first, Cond.code yX1_first cX1_first 1 (some (.object "SplayOrchard$Apple")), Cond.methodLink RX1 18 yX0_leastUnder, Cond.instanceMethod yX0_leastUnder, Cond.selects RX0 yX0_leastUnder yX0_leastUnder, Cond.code yX0_leastUnder cX0_leastUnder 2 (some (.object "SplayOrchard$Apple")), Cond.fieldLink RX0 17 "SplayOrchard$Apple" "left" "LSplayOrchard$Apple;", Cond.methodLink RX2 76 yX2_append, Cond.instanceMethod yX2_append, Cond.selects RX2 yX2_append yX2_append, Cond.code yX2_append cX2_append 4 none, Cond.methodLink RX2 70 yX1_setTop, Cond.instanceMethod yX1_setTop]
def wsL_join_r3 : List Cond := [Cond.selects RX1 yX1_setTop yX1_setTop, Cond.code yX1_setTop cX1_setTop 2 none, Cond.fieldLink RX1 13 "SplayOrchard$Apple" "up" "LSplayOrchard$Apple;", Cond.methodLink RX2 54 yX2_bringUp, Cond.instanceMethod yX2_bringUp, Cond.selects RX2 yX2_bringUp yX2_bringUp, Cond.code yX2_bringUp cX2_bringUp 4 (some .int), Cond.fieldLink RX2 102 "SplayOrchard" "turned" "I", Cond.methodLink RX2 215 yX1_bringUp, Cond.instanceMethod yX1_bringUp, Cond.selects RX1 yX1_bringUp yX1_bringUp, Cond.code yX1_bringUp cX1_bringUp 6 (some .int), Cond.methodLink RX1 46 yX0_depth, Cond.instanceMethod yX0_depth, Cond.selects RX0 yX0_depth yX0_depth, Cond.code yX0_depth cX0_depth 3 (some .int), Cond.fieldLink RX0 20 "SplayOrchard$Apple" "up" "LSplayOrchard$Apple;", Cond.methodLink RX1 50 yX0_isOnTheLeft, Cond.instanceMethod yX0_isOnTheLeft, Cond.selects RX0 yX0_isOnTheLeft yX0_isOnTheLeft, Cond.code yX0_isOnTheLeft cX0_isOnTheLeft 1 (some .boolean), Cond.methodLink RX1 54 yX0_turn, Cond.instanceMethod yX0_turn, Cond.selects RX0 yX0_turn yX0_turn]
def wsL_join_r4 : List Cond := [Cond.code yX0_turn cX0_turn 4 none, Cond.methodLink RX0 26 yX0_isOnTheLeft, Cond.methodLink RX0 30 yX0_hangLeft, Cond.instanceMethod yX0_hangLeft, Cond.selects RX0 yX0_hangLeft yX0_hangLeft, Cond.code yX0_hangLeft cX0_hangLeft 2 none, Cond.methodLink RX0 34 yX0_hangRight, Cond.instanceMethod yX0_hangRight, Cond.selects RX0 yX0_hangRight yX0_hangRight, Cond.code yX0_hangRight cX0_hangRight 2 none, Cond.methodLink RX2 90 yX0_hangRight, Cond.methodLink RX2 93 yX1_count, Cond.instanceMethod yX1_count, Cond.selects RX1 yX1_count yX1_count, Cond.code yX1_count cX1_count 1 (some .int), Cond.methodLink RX1 63 yX0_countUnder, Cond.instanceMethod yX0_countUnder, Cond.selects RX0 yX0_countUnder yX0_countUnder, Cond.code yX0_countUnder cX0_countUnder 4 (some .int), Cond.methodLink RX0 41 yX0_greatestUnder, Cond.methodLink RX0 37 yX0_leastUnder, Cond.methodLink RX0 44 yX0_next, Cond.instanceMethod yX0_next, Cond.selects RX0 yX0_next yX0_next]
def wsL_join_r5 : List Cond := [Cond.code yX0_next cX0_next 2 (some (.object "SplayOrchard$Apple"))]
def wsL_join : List Cond := .codeWith yL_join cL_join 5 (some .int) [(0, 10, 13, 13), (0, 10, 17, 17)] :: ((wsL_join_r1 ++ (wsL_join_r2 ++ (wsL_join_r3 ++ (wsL_join_r4 ++ wsL_join_r5)))) ++ wsX10 ++ wsX20 ++ wsX00 ++ (vx_atS RX2 36 "java/lang/IllegalStateException" ["java/lang/RuntimeException", "java/lang/Exception"]).filter goodWord ++ (vx_atS RX2 129 "java/lang/IndexOutOfBoundsException" ["java/lang/RuntimeException", "java/lang/Exception"]).filter goodWord)
def wsL_sizeOf_r1 : List Cond := [Cond.classLink RL 13 "java/lang/IndexOutOfBoundsException", Cond.methodLink RL 32 yX2_sizeOf, Cond.instanceMethod yX2_sizeOf, Cond.selects RX2 yX2_sizeOf yX2_sizeOf, Cond.initialized RX2, Cond.code yX2_sizeOf cX2_sizeOf 2 (some .int), Cond.methodLink RX2 20 yX2_treeOf, Cond.instanceMethod yX2_treeOf, Cond.selects RX2 yX2_treeOf yX2_treeOf, Cond.code yX2_treeOf cX2_treeOf 2 (some (.object "SplayOrchard$Tree")), Cond.classLink RX2 125 "java/lang/IndexOutOfBoundsException", Cond.initialized "java/lang/IndexOutOfBoundsException", Cond.fieldLink RX2 11 "SplayOrchard" "rows" "[LSplayOrchard$Tree;", Cond.methodLink RX2 93 yX1_count, Cond.instanceMethod yX1_count, Cond.selects RX1 yX1_count yX1_count, Cond.initialized RX1, Cond.code yX1_count cX1_count 1 (some .int), Cond.fieldLink RX1 7 "SplayOrchard$Tree" "top" "LSplayOrchard$Apple;", Cond.methodLink RX1 63 yX0_countUnder, Cond.instanceMethod yX0_countUnder, Cond.selects RX0 yX0_countUnder yX0_countUnder, Cond.initialized RX0, Cond.code yX0_countUnder cX0_countUnder 4 (some .int)]
def wsL_sizeOf_r2 : List Cond := [Cond.methodLink RX0 41 yX0_greatestUnder, Cond.instanceMethod yX0_greatestUnder, Cond.selects RX0 yX0_greatestUnder yX0_greatestUnder, Cond.code yX0_greatestUnder cX0_greatestUnder 2 (some (.object "SplayOrchard$Apple")), Cond.fieldLink RX0 23 "SplayOrchard$Apple" "right" "LSplayOrchard$Apple;", Cond.methodLink RX0 37 yX0_leastUnder, Cond.instanceMethod yX0_leastUnder, Cond.selects RX0 yX0_leastUnder yX0_leastUnder, Cond.code yX0_leastUnder cX0_leastUnder 2 (some (.object "SplayOrchard$Apple")), Cond.fieldLink RX0 17 "SplayOrchard$Apple" "left" "LSplayOrchard$Apple;", Cond.methodLink RX0 44 yX0_next, Cond.instanceMethod yX0_next, Cond.selects RX0 yX0_next yX0_next, Cond.code yX0_next cX0_next 2 (some (.object "SplayOrchard$Apple")), Cond.fieldLink RX0 20 "SplayOrchard$Apple" "up" "LSplayOrchard$Apple;"]
def wsL_sizeOf : List Cond := .codeWith yL_sizeOf cL_sizeOf 4 (some .int) [(0, 9, 12, 13)] :: ((wsL_sizeOf_r1 ++ wsL_sizeOf_r2) ++ wsX20 ++ wsX10 ++ wsX00 ++ (vx_atS RX2 129 "java/lang/IndexOutOfBoundsException" ["java/lang/RuntimeException", "java/lang/Exception"]).filter goodWord)
def wsL_top : List Cond := .codeWith yL_top cL_top 4 (some .int) [(0, 9, 12, 13)] :: ([.classLink RL 13 "java/lang/IndexOutOfBoundsException", .methodLink RL 36 yX2_top, .instanceMethod yX2_top, .selects RX2 yX2_top yX2_top, .initialized RX2, .code yX2_top cX2_top 2 (some .int), .fieldLink RX2 82 "SplayOrchard$Tree" "top" "LSplayOrchard$Apple;", .methodLink RX2 20 yX2_treeOf, .instanceMethod yX2_treeOf, .selects RX2 yX2_treeOf yX2_treeOf, .code yX2_treeOf cX2_treeOf 2 (some (.object "SplayOrchard$Tree")), .classLink RX2 125 "java/lang/IndexOutOfBoundsException", .initialized "java/lang/IndexOutOfBoundsException", .fieldLink RX2 11 "SplayOrchard" "rows" "[LSplayOrchard$Tree;", .methodLink RX2 105 yX2_sizeOrNone, .static yX2_sizeOrNone, .code yX2_sizeOrNone cX2_sizeOrNone 1 (some .int), .fieldLink RX2 130 "SplayOrchard$Apple" "size" "I"] ++ wsX10 ++ wsX20 ++ wsX00 ++ (vx_atS RX2 129 "java/lang/IndexOutOfBoundsException" ["java/lang/RuntimeException", "java/lang/Exception"]).filter goodWord)
def wsL_height_r1 : List Cond := [Cond.classLink RL 13 "java/lang/IndexOutOfBoundsException", Cond.methodLink RL 39 yX2_height, Cond.instanceMethod yX2_height, Cond.selects RX2 yX2_height yX2_height, Cond.initialized RX2, Cond.code yX2_height cX2_height 2 (some .int), Cond.methodLink RX2 20 yX2_treeOf, Cond.instanceMethod yX2_treeOf, Cond.selects RX2 yX2_treeOf yX2_treeOf, Cond.code yX2_treeOf cX2_treeOf 2 (some (.object "SplayOrchard$Tree")), Cond.classLink RX2 125 "java/lang/IndexOutOfBoundsException", Cond.initialized "java/lang/IndexOutOfBoundsException", Cond.fieldLink RX2 11 "SplayOrchard" "rows" "[LSplayOrchard$Tree;", Cond.methodLink RX2 109 yX1_levels, Cond.instanceMethod yX1_levels, Cond.selects RX1 yX1_levels yX1_levels, Cond.initialized RX1, Cond.code yX1_levels cX1_levels 3 (some .int), Cond.methodLink RX1 66 Lib.Math.max.name, Cond.static Lib.Math.max.name, Cond.initialized "java/lang/Math", Cond.code Lib.Math.max.name Lib.Math.max.code 2 (some .int), Cond.methodLink RX1 57 yX1_first, Cond.instanceMethod yX1_first]
def wsL_height_r2 : List Cond := [Cond.selects RX1 yX1_first yX1_first, Cond.code yX1_first cX1_first 1 (some (.object "SplayOrchard$Apple")), Cond.fieldLink RX1 7 "SplayOrchard$Tree" "top" "LSplayOrchard$Apple;", Cond.methodLink RX1 18 yX0_leastUnder, Cond.instanceMethod yX0_leastUnder, Cond.selects RX0 yX0_leastUnder yX0_leastUnder, Cond.initialized RX0, Cond.code yX0_leastUnder cX0_leastUnder 2 (some (.object "SplayOrchard$Apple")), Cond.fieldLink RX0 17 "SplayOrchard$Apple" "left" "LSplayOrchard$Apple;", Cond.methodLink RX1 46 yX0_depth, Cond.instanceMethod yX0_depth, Cond.selects RX0 yX0_depth yX0_depth, Cond.code yX0_depth cX0_depth 3 (some .int), Cond.fieldLink RX0 20 "SplayOrchard$Apple" "up" "LSplayOrchard$Apple;", Cond.methodLink RX1 60 yX0_next, Cond.instanceMethod yX0_next, Cond.selects RX0 yX0_next yX0_next, Cond.code yX0_next cX0_next 2 (some (.object "SplayOrchard$Apple")), Cond.fieldLink RX0 23 "SplayOrchard$Apple" "right" "LSplayOrchard$Apple;", Cond.methodLink RX0 37 yX0_leastUnder]
def wsL_height : List Cond := .codeWith yL_height cL_height 4 (some .int) [(0, 9, 12, 13)] :: ((wsL_height_r1 ++ wsL_height_r2) ++ wsX20 ++ wsX10 ++ wsX00 ++ (vx_atS RX2 129 "java/lang/IndexOutOfBoundsException" ["java/lang/RuntimeException", "java/lang/Exception"]).filter goodWord)
def wsL_leastHeight_r1 : List Cond := [Cond.classLink RL 13 "java/lang/IndexOutOfBoundsException", Cond.methodLink RL 42 yX2_leastHeight, Cond.instanceMethod yX2_leastHeight, Cond.selects RX2 yX2_leastHeight yX2_leastHeight, Cond.initialized RX2, Cond.code yX2_leastHeight cX2_leastHeight 5 (some .int), Cond.methodLink RX2 20 yX2_treeOf, Cond.instanceMethod yX2_treeOf, Cond.selects RX2 yX2_treeOf yX2_treeOf, Cond.code yX2_treeOf cX2_treeOf 2 (some (.object "SplayOrchard$Tree")), Cond.classLink RX2 125 "java/lang/IndexOutOfBoundsException", Cond.initialized "java/lang/IndexOutOfBoundsException", Cond.fieldLink RX2 11 "SplayOrchard" "rows" "[LSplayOrchard$Tree;", Cond.methodLink RX2 93 yX1_count, Cond.instanceMethod yX1_count, Cond.selects RX1 yX1_count yX1_count, Cond.initialized RX1, Cond.code yX1_count cX1_count 1 (some .int), Cond.fieldLink RX1 7 "SplayOrchard$Tree" "top" "LSplayOrchard$Apple;", Cond.methodLink RX1 63 yX0_countUnder, Cond.instanceMethod yX0_countUnder, Cond.selects RX0 yX0_countUnder yX0_countUnder, Cond.initialized RX0, Cond.code yX0_countUnder cX0_countUnder 4 (some .int)]
def wsL_leastHeight_r2 : List Cond := [Cond.methodLink RX0 41 yX0_greatestUnder, Cond.instanceMethod yX0_greatestUnder, Cond.selects RX0 yX0_greatestUnder yX0_greatestUnder, Cond.code yX0_greatestUnder cX0_greatestUnder 2 (some (.object "SplayOrchard$Apple")), Cond.fieldLink RX0 23 "SplayOrchard$Apple" "right" "LSplayOrchard$Apple;", Cond.methodLink RX0 37 yX0_leastUnder, Cond.instanceMethod yX0_leastUnder, Cond.selects RX0 yX0_leastUnder yX0_leastUnder, Cond.code yX0_leastUnder cX0_leastUnder 2 (some (.object "SplayOrchard$Apple")), Cond.fieldLink RX0 17 "SplayOrchard$Apple" "left" "LSplayOrchard$Apple;", Cond.methodLink RX0 44 yX0_next, Cond.instanceMethod yX0_next, Cond.selects RX0 yX0_next yX0_next, Cond.code yX0_next cX0_next 2 (some (.object "SplayOrchard$Apple")), Cond.fieldLink RX0 20 "SplayOrchard$Apple" "up" "LSplayOrchard$Apple;"]
def wsL_leastHeight : List Cond := .codeWith yL_leastHeight cL_leastHeight 4 (some .int) [(0, 9, 12, 13)] :: ((wsL_leastHeight_r1 ++ wsL_leastHeight_r2) ++ wsX20 ++ wsX10 ++ wsX00 ++ (vx_atS RX2 129 "java/lang/IndexOutOfBoundsException" ["java/lang/RuntimeException", "java/lang/Exception"]).filter goodWord)
def wsL_depths_r1 : List Cond := [Cond.classLink RL 13 "java/lang/IndexOutOfBoundsException", Cond.methodLink RL 45 yX2_depths, Cond.instanceMethod yX2_depths, Cond.selects RX2 yX2_depths yX2_depths, Cond.initialized RX2, Cond.code yX2_depths cX2_depths 2 (some .int), Cond.methodLink RX2 20 yX2_treeOf, Cond.instanceMethod yX2_treeOf, Cond.selects RX2 yX2_treeOf yX2_treeOf, Cond.code yX2_treeOf cX2_treeOf 2 (some (.object "SplayOrchard$Tree")), Cond.classLink RX2 125 "java/lang/IndexOutOfBoundsException", Cond.initialized "java/lang/IndexOutOfBoundsException", Cond.fieldLink RX2 11 "SplayOrchard" "rows" "[LSplayOrchard$Tree;", Cond.methodLink RX2 112 yX1_depthSum, Cond.instanceMethod yX1_depthSum, Cond.selects RX1 yX1_depthSum yX1_depthSum, Cond.initialized RX1, Cond.code yX1_depthSum cX1_depthSum 3 (some .int), Cond.methodLink RX1 57 yX1_first, Cond.instanceMethod yX1_first, Cond.selects RX1 yX1_first yX1_first, Cond.code yX1_first cX1_first 1 (some (.object "SplayOrchard$Apple")), Cond.fieldLink RX1 7 "SplayOrchard$Tree" "top" "LSplayOrchard$Apple;", Cond.methodLink RX1 18 yX0_leastUnder]
def wsL_depths_r2 : List Cond := [Cond.instanceMethod yX0_leastUnder, Cond.selects RX0 yX0_leastUnder yX0_leastUnder, Cond.initialized RX0, Cond.code yX0_leastUnder cX0_leastUnder 2 (some (.object "SplayOrchard$Apple")), Cond.fieldLink RX0 17 "SplayOrchard$Apple" "left" "LSplayOrchard$Apple;", Cond.methodLink RX1 46 yX0_depth, Cond.instanceMethod yX0_depth, Cond.selects RX0 yX0_depth yX0_depth, Cond.code yX0_depth cX0_depth 3 (some .int), Cond.fieldLink RX0 20 "SplayOrchard$Apple" "up" "LSplayOrchard$Apple;", Cond.methodLink RX1 60 yX0_next, Cond.instanceMethod yX0_next, Cond.selects RX0 yX0_next yX0_next, Cond.code yX0_next cX0_next 2 (some (.object "SplayOrchard$Apple")), Cond.fieldLink RX0 23 "SplayOrchard$Apple" "right" "LSplayOrchard$Apple;", Cond.methodLink RX0 37 yX0_leastUnder]
def wsL_depths : List Cond := .codeWith yL_depths cL_depths 4 (some .int) [(0, 9, 12, 13)] :: ((wsL_depths_r1 ++ wsL_depths_r2) ++ wsX20 ++ wsX10 ++ wsX00 ++ (vx_atS RX2 129 "java/lang/IndexOutOfBoundsException" ["java/lang/RuntimeException", "java/lang/Exception"]).filter goodWord)
def wsL_smallest_r1 : List Cond := [Cond.classLink RL 13 "java/lang/IndexOutOfBoundsException", Cond.methodLink RL 48 yX2_smallest, Cond.instanceMethod yX2_smallest, Cond.selects RX2 yX2_smallest yX2_smallest, Cond.initialized RX2, Cond.code yX2_smallest cX2_smallest 2 (some .int), Cond.methodLink RX2 20 yX2_treeOf, Cond.instanceMethod yX2_treeOf, Cond.selects RX2 yX2_treeOf yX2_treeOf, Cond.code yX2_treeOf cX2_treeOf 2 (some (.object "SplayOrchard$Tree")), Cond.classLink RX2 125 "java/lang/IndexOutOfBoundsException", Cond.initialized "java/lang/IndexOutOfBoundsException", Cond.fieldLink RX2 11 "SplayOrchard" "rows" "[LSplayOrchard$Tree;", Cond.methodLink RX2 115 yX1_first, Cond.instanceMethod yX1_first, Cond.selects RX1 yX1_first yX1_first, Cond.initialized RX1, Cond.code yX1_first cX1_first 1 (some (.object "SplayOrchard$Apple")), Cond.fieldLink RX1 7 "SplayOrchard$Tree" "top" "LSplayOrchard$Apple;", Cond.methodLink RX1 18 yX0_leastUnder, Cond.instanceMethod yX0_leastUnder, Cond.selects RX0 yX0_leastUnder yX0_leastUnder, Cond.initialized RX0, Cond.code yX0_leastUnder cX0_leastUnder 2 (some (.object "SplayOrchard$Apple"))]
def wsL_smallest_r2 : List Cond := [Cond.fieldLink RX0 17 "SplayOrchard$Apple" "left" "LSplayOrchard$Apple;", Cond.methodLink RX2 105 yX2_sizeOrNone, Cond.static yX2_sizeOrNone, Cond.code yX2_sizeOrNone cX2_sizeOrNone 1 (some .int), Cond.fieldLink RX2 130 "SplayOrchard$Apple" "size" "I"]
def wsL_smallest : List Cond := .codeWith yL_smallest cL_smallest 4 (some .int) [(0, 9, 12, 13)] :: ((wsL_smallest_r1 ++ wsL_smallest_r2) ++ wsX20 ++ wsX10 ++ wsX00 ++ (vx_atS RX2 129 "java/lang/IndexOutOfBoundsException" ["java/lang/RuntimeException", "java/lang/Exception"]).filter goodWord)
def wsL_greatest_r1 : List Cond := [Cond.classLink RL 13 "java/lang/IndexOutOfBoundsException", Cond.methodLink RL 51 yX2_greatest, Cond.instanceMethod yX2_greatest, Cond.selects RX2 yX2_greatest yX2_greatest, Cond.initialized RX2, Cond.code yX2_greatest cX2_greatest 2 (some .int), Cond.methodLink RX2 20 yX2_treeOf, Cond.instanceMethod yX2_treeOf, Cond.selects RX2 yX2_treeOf yX2_treeOf, Cond.code yX2_treeOf cX2_treeOf 2 (some (.object "SplayOrchard$Tree")), Cond.classLink RX2 125 "java/lang/IndexOutOfBoundsException", Cond.initialized "java/lang/IndexOutOfBoundsException", Cond.fieldLink RX2 11 "SplayOrchard" "rows" "[LSplayOrchard$Tree;", Cond.methodLink RX2 119 yX1_last, Cond.instanceMethod yX1_last, Cond.selects RX1 yX1_last yX1_last, Cond.initialized RX1, Cond.code yX1_last cX1_last 1 (some (.object "SplayOrchard$Apple")), Cond.fieldLink RX1 7 "SplayOrchard$Tree" "top" "LSplayOrchard$Apple;", Cond.methodLink RX1 22 yX0_greatestUnder, Cond.instanceMethod yX0_greatestUnder, Cond.selects RX0 yX0_greatestUnder yX0_greatestUnder, Cond.initialized RX0, Cond.code yX0_greatestUnder cX0_greatestUnder 2 (some (.object "SplayOrchard$Apple"))]
def wsL_greatest_r2 : List Cond := [Cond.fieldLink RX0 23 "SplayOrchard$Apple" "right" "LSplayOrchard$Apple;", Cond.methodLink RX2 105 yX2_sizeOrNone, Cond.static yX2_sizeOrNone, Cond.code yX2_sizeOrNone cX2_sizeOrNone 1 (some .int), Cond.fieldLink RX2 130 "SplayOrchard$Apple" "size" "I"]
def wsL_greatest : List Cond := .codeWith yL_greatest cL_greatest 4 (some .int) [(0, 9, 12, 13)] :: ((wsL_greatest_r1 ++ wsL_greatest_r2) ++ wsX20 ++ wsX10 ++ wsX00 ++ (vx_atS RX2 129 "java/lang/IndexOutOfBoundsException" ["java/lang/RuntimeException", "java/lang/Exception"]).filter goodWord)
def wsL_inOrder_r1 : List Cond := [Cond.classLink RL 13 "java/lang/IndexOutOfBoundsException", Cond.methodLink RL 54 yX2_inOrder, Cond.instanceMethod yX2_inOrder, Cond.selects RX2 yX2_inOrder yX2_inOrder, Cond.initialized RX2, Cond.code yX2_inOrder cX2_inOrder 4 (some .int), Cond.classLink RX2 125 "java/lang/IndexOutOfBoundsException", Cond.initialized "java/lang/IndexOutOfBoundsException", Cond.fieldLink RX2 130 "SplayOrchard$Apple" "size" "I", Cond.methodLink RX2 20 yX2_treeOf, Cond.instanceMethod yX2_treeOf, Cond.selects RX2 yX2_treeOf yX2_treeOf, Cond.code yX2_treeOf cX2_treeOf 2 (some (.object "SplayOrchard$Tree")), Cond.fieldLink RX2 11 "SplayOrchard" "rows" "[LSplayOrchard$Tree;", Cond.methodLink RX2 122 yX1_at, Cond.instanceMethod yX1_at, Cond.selects RX1 yX1_at yX1_at, Cond.initialized RX1, Cond.code yX1_at cX1_at 4 (some (.object "SplayOrchard$Apple")), Cond.methodLink RX1 57 yX1_first, Cond.instanceMethod yX1_first, Cond.selects RX1 yX1_first yX1_first, Cond.code yX1_first cX1_first 1 (some (.object "SplayOrchard$Apple")), Cond.fieldLink RX1 7 "SplayOrchard$Tree" "top" "LSplayOrchard$Apple;"]
def wsL_inOrder_r2 : List Cond := [Cond.methodLink RX1 18 yX0_leastUnder, Cond.instanceMethod yX0_leastUnder, Cond.selects RX0 yX0_leastUnder yX0_leastUnder, Cond.initialized RX0, Cond.code yX0_leastUnder cX0_leastUnder 2 (some (.object "SplayOrchard$Apple")), Cond.fieldLink RX0 17 "SplayOrchard$Apple" "left" "LSplayOrchard$Apple;", Cond.methodLink RX1 60 yX0_next, Cond.instanceMethod yX0_next, Cond.selects RX0 yX0_next yX0_next, Cond.code yX0_next cX0_next 2 (some (.object "SplayOrchard$Apple")), Cond.fieldLink RX0 23 "SplayOrchard$Apple" "right" "LSplayOrchard$Apple;", Cond.fieldLink RX0 20 "SplayOrchard$Apple" "up" "LSplayOrchard$Apple;", Cond.methodLink RX0 37 yX0_leastUnder]
def wsL_inOrder : List Cond := .codeWith yL_inOrder cL_inOrder 5 (some .int) [(0, 10, 13, 13)] :: ((wsL_inOrder_r1 ++ wsL_inOrder_r2) ++ wsX00 ++ wsX20 ++ wsX10 ++ (vx_atS RX2 129 "java/lang/IndexOutOfBoundsException" ["java/lang/RuntimeException", "java/lang/Exception"]).filter goodWord)
def wsL_leaves_r1 : List Cond := [Cond.classLink RL 13 "java/lang/IndexOutOfBoundsException", Cond.methodLink RL 57 yX2_leaves, Cond.instanceMethod yX2_leaves, Cond.selects RX2 yX2_leaves yX2_leaves, Cond.initialized RX2, Cond.code yX2_leaves cX2_leaves 2 (some .int), Cond.methodLink RX2 20 yX2_treeOf, Cond.instanceMethod yX2_treeOf, Cond.selects RX2 yX2_treeOf yX2_treeOf, Cond.code yX2_treeOf cX2_treeOf 2 (some (.object "SplayOrchard$Tree")), Cond.classLink RX2 125 "java/lang/IndexOutOfBoundsException", Cond.initialized "java/lang/IndexOutOfBoundsException", Cond.fieldLink RX2 11 "SplayOrchard" "rows" "[LSplayOrchard$Tree;", Cond.methodLink RX2 133 yX1_leafCount, Cond.instanceMethod yX1_leafCount, Cond.selects RX1 yX1_leafCount yX1_leafCount, Cond.initialized RX1, Cond.code yX1_leafCount cX1_leafCount 3 (some .int), Cond.fieldLink RX1 72 "SplayOrchard$Apple" "left" "LSplayOrchard$Apple;", Cond.fieldLink RX1 75 "SplayOrchard$Apple" "right" "LSplayOrchard$Apple;", Cond.methodLink RX1 57 yX1_first, Cond.instanceMethod yX1_first, Cond.selects RX1 yX1_first yX1_first, Cond.code yX1_first cX1_first 1 (some (.object "SplayOrchard$Apple"))]
def wsL_leaves_r2 : List Cond := [Cond.fieldLink RX1 7 "SplayOrchard$Tree" "top" "LSplayOrchard$Apple;", Cond.methodLink RX1 18 yX0_leastUnder, Cond.instanceMethod yX0_leastUnder, Cond.selects RX0 yX0_leastUnder yX0_leastUnder, Cond.initialized RX0, Cond.code yX0_leastUnder cX0_leastUnder 2 (some (.object "SplayOrchard$Apple")), Cond.fieldLink RX0 17 "SplayOrchard$Apple" "left" "LSplayOrchard$Apple;", Cond.methodLink RX1 60 yX0_next, Cond.instanceMethod yX0_next, Cond.selects RX0 yX0_next yX0_next, Cond.code yX0_next cX0_next 2 (some (.object "SplayOrchard$Apple")), Cond.fieldLink RX0 23 "SplayOrchard$Apple" "right" "LSplayOrchard$Apple;", Cond.fieldLink RX0 20 "SplayOrchard$Apple" "up" "LSplayOrchard$Apple;", Cond.methodLink RX0 37 yX0_leastUnder]
def wsL_leaves : List Cond := .codeWith yL_leaves cL_leaves 4 (some .int) [(0, 9, 12, 13)] :: ((wsL_leaves_r1 ++ wsL_leaves_r2) ++ wsX20 ++ wsX00 ++ wsX10 ++ (vx_atS RX2 129 "java/lang/IndexOutOfBoundsException" ["java/lang/RuntimeException", "java/lang/Exception"]).filter goodWord)
def wsL_has_r1 : List Cond := [Cond.classLink RL 13 "java/lang/IndexOutOfBoundsException", Cond.methodLink RL 60 yX2_has, Cond.instanceMethod yX2_has, Cond.selects RX2 yX2_has yX2_has, Cond.initialized RX2, Cond.code yX2_has cX2_has 3 (some .boolean), Cond.methodLink RX2 20 yX2_treeOf, Cond.instanceMethod yX2_treeOf, Cond.selects RX2 yX2_treeOf yX2_treeOf, Cond.code yX2_treeOf cX2_treeOf 2 (some (.object "SplayOrchard$Tree")), Cond.classLink RX2 125 "java/lang/IndexOutOfBoundsException", Cond.initialized "java/lang/IndexOutOfBoundsException", Cond.fieldLink RX2 11 "SplayOrchard" "rows" "[LSplayOrchard$Tree;", Cond.methodLink RX2 39 yX1_find, Cond.instanceMethod yX1_find, Cond.selects RX1 yX1_find yX1_find, Cond.initialized RX1, Cond.code yX1_find cX1_find 3 (some (.object "SplayOrchard$Apple")), Cond.fieldLink RX1 32 "SplayOrchard$Apple" "size" "I", Cond.methodLink RX1 29 yX1_nearest, Cond.instanceMethod yX1_nearest, Cond.selects RX1 yX1_nearest yX1_nearest, Cond.code yX1_nearest cX1_nearest 4 (some (.object "SplayOrchard$Apple")), Cond.fieldLink RX1 7 "SplayOrchard$Tree" "top" "LSplayOrchard$Apple;"]
def wsL_has_r2 : List Cond := [Cond.methodLink RX1 25 yX0_towards, Cond.instanceMethod yX0_towards, Cond.selects RX0 yX0_towards yX0_towards, Cond.initialized RX0, Cond.code yX0_towards cX0_towards 2 (some (.object "SplayOrchard$Apple")), Cond.fieldLink RX0 7 "SplayOrchard$Apple" "size" "I", Cond.fieldLink RX0 17 "SplayOrchard$Apple" "left" "LSplayOrchard$Apple;", Cond.fieldLink RX0 23 "SplayOrchard$Apple" "right" "LSplayOrchard$Apple;"]
def wsL_has : List Cond := .codeWith yL_has cL_has 5 (some .int) [(0, 17, 20, 13)] :: ((wsL_has_r1 ++ wsL_has_r2) ++ wsX20 ++ wsX00 ++ wsX10 ++ (vx_atS RX2 129 "java/lang/IndexOutOfBoundsException" ["java/lang/RuntimeException", "java/lang/Exception"]).filter goodWord)
def wsL_smaller_r1 : List Cond := [Cond.classLink RL 13 "java/lang/IndexOutOfBoundsException", Cond.methodLink RL 64 yX2_smaller, Cond.instanceMethod yX2_smaller, Cond.selects RX2 yX2_smaller yX2_smaller, Cond.initialized RX2, Cond.code yX2_smaller cX2_smaller 3 (some .int), Cond.methodLink RX2 20 yX2_treeOf, Cond.instanceMethod yX2_treeOf, Cond.selects RX2 yX2_treeOf yX2_treeOf, Cond.code yX2_treeOf cX2_treeOf 2 (some (.object "SplayOrchard$Tree")), Cond.classLink RX2 125 "java/lang/IndexOutOfBoundsException", Cond.initialized "java/lang/IndexOutOfBoundsException", Cond.fieldLink RX2 11 "SplayOrchard" "rows" "[LSplayOrchard$Tree;", Cond.methodLink RX2 136 yX1_countBelow, Cond.instanceMethod yX1_countBelow, Cond.selects RX1 yX1_countBelow yX1_countBelow, Cond.initialized RX1, Cond.code yX1_countBelow cX1_countBelow 4 (some .int), Cond.fieldLink RX1 32 "SplayOrchard$Apple" "size" "I", Cond.methodLink RX1 57 yX1_first, Cond.instanceMethod yX1_first, Cond.selects RX1 yX1_first yX1_first, Cond.code yX1_first cX1_first 1 (some (.object "SplayOrchard$Apple")), Cond.fieldLink RX1 7 "SplayOrchard$Tree" "top" "LSplayOrchard$Apple;"]
def wsL_smaller_r2 : List Cond := [Cond.methodLink RX1 18 yX0_leastUnder, Cond.instanceMethod yX0_leastUnder, Cond.selects RX0 yX0_leastUnder yX0_leastUnder, Cond.initialized RX0, Cond.code yX0_leastUnder cX0_leastUnder 2 (some (.object "SplayOrchard$Apple")), Cond.fieldLink RX0 17 "SplayOrchard$Apple" "left" "LSplayOrchard$Apple;", Cond.methodLink RX1 60 yX0_next, Cond.instanceMethod yX0_next, Cond.selects RX0 yX0_next yX0_next, Cond.code yX0_next cX0_next 2 (some (.object "SplayOrchard$Apple")), Cond.fieldLink RX0 23 "SplayOrchard$Apple" "right" "LSplayOrchard$Apple;", Cond.fieldLink RX0 20 "SplayOrchard$Apple" "up" "LSplayOrchard$Apple;", Cond.methodLink RX0 37 yX0_leastUnder]
def wsL_smaller : List Cond := .codeWith yL_smaller cL_smaller 5 (some .int) [(0, 10, 13, 13)] :: ((wsL_smaller_r1 ++ wsL_smaller_r2) ++ wsX20 ++ wsX00 ++ wsX10 ++ (vx_atS RX2 129 "java/lang/IndexOutOfBoundsException" ["java/lang/RuntimeException", "java/lang/Exception"]).filter goodWord)
def wsL_depthOf_r1 : List Cond := [Cond.classLink RL 13 "java/lang/IndexOutOfBoundsException", Cond.classLink RL 17 "java/lang/IllegalStateException", Cond.methodLink RL 67 yX2_depthOf, Cond.instanceMethod yX2_depthOf, Cond.selects RX2 yX2_depthOf yX2_depthOf, Cond.initialized RX2, Cond.code yX2_depthOf cX2_depthOf 3 (some .int), Cond.methodLink RX2 20 yX2_treeOf, Cond.instanceMethod yX2_treeOf, Cond.selects RX2 yX2_treeOf yX2_treeOf, Cond.code yX2_treeOf cX2_treeOf 2 (some (.object "SplayOrchard$Tree")), Cond.classLink RX2 125 "java/lang/IndexOutOfBoundsException", Cond.initialized "java/lang/IndexOutOfBoundsException", Cond.fieldLink RX2 11 "SplayOrchard" "rows" "[LSplayOrchard$Tree;", Cond.methodLink RX2 58 yX2_appleOf, Cond.static yX2_appleOf, Cond.code yX2_appleOf cX2_appleOf 3 (some (.object "SplayOrchard$Apple")), Cond.classLink RX2 32 "java/lang/IllegalStateException", Cond.initialized "java/lang/IllegalStateException", Cond.methodLink RX2 39 yX1_find, Cond.instanceMethod yX1_find, Cond.selects RX1 yX1_find yX1_find, Cond.initialized RX1, Cond.code yX1_find cX1_find 3 (some (.object "SplayOrchard$Apple"))]
def wsL_depthOf_r2 : List Cond := [Cond.fieldLink RX1 32 "SplayOrchard$Apple" "size" "I", Cond.methodLink RX1 29 yX1_nearest, Cond.instanceMethod yX1_nearest, Cond.selects RX1 yX1_nearest yX1_nearest, Cond.code yX1_nearest cX1_nearest 4 (some (.object "SplayOrchard$Apple")), Cond.fieldLink RX1 7 "SplayOrchard$Tree" "top" "LSplayOrchard$Apple;", Cond.methodLink RX1 25 yX0_towards, Cond.instanceMethod yX0_towards, Cond.selects RX0 yX0_towards yX0_towards, Cond.initialized RX0, Cond.code yX0_towards cX0_towards 2 (some (.object "SplayOrchard$Apple")), Cond.fieldLink RX0 7 "SplayOrchard$Apple" "size" "I", Cond.fieldLink RX0 17 "SplayOrchard$Apple" "left" "LSplayOrchard$Apple;", Cond.fieldLink RX0 23 "SplayOrchard$Apple" "right" "LSplayOrchard$Apple;", Cond.methodLink RX2 140 yX0_depth, Cond.instanceMethod yX0_depth, Cond.selects RX0 yX0_depth yX0_depth, Cond.code yX0_depth cX0_depth 3 (some .int), Cond.fieldLink RX0 20 "SplayOrchard$Apple" "up" "LSplayOrchard$Apple;"]
def wsL_depthOf : List Cond := .codeWith yL_depthOf cL_depthOf 5 (some .int) [(0, 10, 13, 13), (0, 10, 17, 17)] :: ((wsL_depthOf_r1 ++ wsL_depthOf_r2) ++ wsX20 ++ wsX00 ++ wsX10 ++ (vx_atS RX2 129 "java/lang/IndexOutOfBoundsException" ["java/lang/RuntimeException", "java/lang/Exception"]).filter goodWord ++ (vx_atS RX2 36 "java/lang/IllegalStateException" ["java/lang/RuntimeException", "java/lang/Exception"]).filter goodWord)
def wsL_above_r1 : List Cond := [Cond.classLink RL 13 "java/lang/IndexOutOfBoundsException", Cond.classLink RL 17 "java/lang/IllegalStateException", Cond.methodLink RL 70 yX2_above, Cond.instanceMethod yX2_above, Cond.selects RX2 yX2_above yX2_above, Cond.initialized RX2, Cond.code yX2_above cX2_above 3 (some .int), Cond.fieldLink RX2 143 "SplayOrchard$Apple" "up" "LSplayOrchard$Apple;", Cond.methodLink RX2 20 yX2_treeOf, Cond.instanceMethod yX2_treeOf, Cond.selects RX2 yX2_treeOf yX2_treeOf, Cond.code yX2_treeOf cX2_treeOf 2 (some (.object "SplayOrchard$Tree")), Cond.classLink RX2 125 "java/lang/IndexOutOfBoundsException", Cond.initialized "java/lang/IndexOutOfBoundsException", Cond.fieldLink RX2 11 "SplayOrchard" "rows" "[LSplayOrchard$Tree;", Cond.methodLink RX2 58 yX2_appleOf, Cond.static yX2_appleOf, Cond.code yX2_appleOf cX2_appleOf 3 (some (.object "SplayOrchard$Apple")), Cond.classLink RX2 32 "java/lang/IllegalStateException", Cond.initialized "java/lang/IllegalStateException", Cond.methodLink RX2 39 yX1_find, Cond.instanceMethod yX1_find, Cond.selects RX1 yX1_find yX1_find, Cond.initialized RX1]
def wsL_above_r2 : List Cond := [Cond.code yX1_find cX1_find 3 (some (.object "SplayOrchard$Apple")), Cond.fieldLink RX1 32 "SplayOrchard$Apple" "size" "I", Cond.methodLink RX1 29 yX1_nearest, Cond.instanceMethod yX1_nearest, Cond.selects RX1 yX1_nearest yX1_nearest, Cond.code yX1_nearest cX1_nearest 4 (some (.object "SplayOrchard$Apple")), Cond.fieldLink RX1 7 "SplayOrchard$Tree" "top" "LSplayOrchard$Apple;", Cond.methodLink RX1 25 yX0_towards, Cond.instanceMethod yX0_towards, Cond.selects RX0 yX0_towards yX0_towards, Cond.initialized RX0, Cond.code yX0_towards cX0_towards 2 (some (.object "SplayOrchard$Apple")), Cond.fieldLink RX0 7 "SplayOrchard$Apple" "size" "I", Cond.fieldLink RX0 17 "SplayOrchard$Apple" "left" "LSplayOrchard$Apple;", Cond.fieldLink RX0 23 "SplayOrchard$Apple" "right" "LSplayOrchard$Apple;", Cond.methodLink RX2 105 yX2_sizeOrNone, Cond.static yX2_sizeOrNone, Cond.code yX2_sizeOrNone cX2_sizeOrNone 1 (some .int), Cond.fieldLink RX2 130 "SplayOrchard$Apple" "size" "I"]
def wsL_above : List Cond := .codeWith yL_above cL_above 5 (some .int) [(0, 10, 13, 13), (0, 10, 17, 17)] :: ((wsL_above_r1 ++ wsL_above_r2) ++ wsX00 ++ wsX20 ++ wsX10 ++ (vx_atS RX2 129 "java/lang/IndexOutOfBoundsException" ["java/lang/RuntimeException", "java/lang/Exception"]).filter goodWord ++ (vx_atS RX2 36 "java/lang/IllegalStateException" ["java/lang/RuntimeException", "java/lang/Exception"]).filter goodWord)
def wsL_leftOf_r1 : List Cond := [Cond.classLink RL 13 "java/lang/IndexOutOfBoundsException", Cond.classLink RL 17 "java/lang/IllegalStateException", Cond.methodLink RL 73 yX2_leftOf, Cond.instanceMethod yX2_leftOf, Cond.selects RX2 yX2_leftOf yX2_leftOf, Cond.initialized RX2, Cond.code yX2_leftOf cX2_leftOf 3 (some .int), Cond.fieldLink RX2 66 "SplayOrchard$Apple" "left" "LSplayOrchard$Apple;", Cond.methodLink RX2 20 yX2_treeOf, Cond.instanceMethod yX2_treeOf, Cond.selects RX2 yX2_treeOf yX2_treeOf, Cond.code yX2_treeOf cX2_treeOf 2 (some (.object "SplayOrchard$Tree")), Cond.classLink RX2 125 "java/lang/IndexOutOfBoundsException", Cond.initialized "java/lang/IndexOutOfBoundsException", Cond.fieldLink RX2 11 "SplayOrchard" "rows" "[LSplayOrchard$Tree;", Cond.methodLink RX2 58 yX2_appleOf, Cond.static yX2_appleOf, Cond.code yX2_appleOf cX2_appleOf 3 (some (.object "SplayOrchard$Apple")), Cond.classLink RX2 32 "java/lang/IllegalStateException", Cond.initialized "java/lang/IllegalStateException", Cond.methodLink RX2 39 yX1_find, Cond.instanceMethod yX1_find, Cond.selects RX1 yX1_find yX1_find, Cond.initialized RX1]
def wsL_leftOf_r2 : List Cond := [Cond.code yX1_find cX1_find 3 (some (.object "SplayOrchard$Apple")), Cond.fieldLink RX1 32 "SplayOrchard$Apple" "size" "I", Cond.methodLink RX1 29 yX1_nearest, Cond.instanceMethod yX1_nearest, Cond.selects RX1 yX1_nearest yX1_nearest, Cond.code yX1_nearest cX1_nearest 4 (some (.object "SplayOrchard$Apple")), Cond.fieldLink RX1 7 "SplayOrchard$Tree" "top" "LSplayOrchard$Apple;", Cond.methodLink RX1 25 yX0_towards, Cond.instanceMethod yX0_towards, Cond.selects RX0 yX0_towards yX0_towards, Cond.initialized RX0, Cond.code yX0_towards cX0_towards 2 (some (.object "SplayOrchard$Apple")), Cond.fieldLink RX0 7 "SplayOrchard$Apple" "size" "I", Cond.fieldLink RX0 17 "SplayOrchard$Apple" "left" "LSplayOrchard$Apple;", Cond.fieldLink RX0 23 "SplayOrchard$Apple" "right" "LSplayOrchard$Apple;", Cond.methodLink RX2 105 yX2_sizeOrNone, Cond.static yX2_sizeOrNone, Cond.code yX2_sizeOrNone cX2_sizeOrNone 1 (some .int), Cond.fieldLink RX2 130 "SplayOrchard$Apple" "size" "I"]
def wsL_leftOf : List Cond := .codeWith yL_leftOf cL_leftOf 5 (some .int) [(0, 10, 13, 13), (0, 10, 17, 17)] :: ((wsL_leftOf_r1 ++ wsL_leftOf_r2) ++ wsX00 ++ wsX20 ++ wsX10 ++ (vx_atS RX2 129 "java/lang/IndexOutOfBoundsException" ["java/lang/RuntimeException", "java/lang/Exception"]).filter goodWord ++ (vx_atS RX2 36 "java/lang/IllegalStateException" ["java/lang/RuntimeException", "java/lang/Exception"]).filter goodWord)
def wsL_rightOf_r1 : List Cond := [Cond.classLink RL 13 "java/lang/IndexOutOfBoundsException", Cond.classLink RL 17 "java/lang/IllegalStateException", Cond.methodLink RL 76 yX2_rightOf, Cond.instanceMethod yX2_rightOf, Cond.selects RX2 yX2_rightOf yX2_rightOf, Cond.initialized RX2, Cond.code yX2_rightOf cX2_rightOf 3 (some .int), Cond.fieldLink RX2 73 "SplayOrchard$Apple" "right" "LSplayOrchard$Apple;", Cond.methodLink RX2 20 yX2_treeOf, Cond.instanceMethod yX2_treeOf, Cond.selects RX2 yX2_treeOf yX2_treeOf, Cond.code yX2_treeOf cX2_treeOf 2 (some (.object "SplayOrchard$Tree")), Cond.classLink RX2 125 "java/lang/IndexOutOfBoundsException", Cond.initialized "java/lang/IndexOutOfBoundsException", Cond.fieldLink RX2 11 "SplayOrchard" "rows" "[LSplayOrchard$Tree;", Cond.methodLink RX2 58 yX2_appleOf, Cond.static yX2_appleOf, Cond.code yX2_appleOf cX2_appleOf 3 (some (.object "SplayOrchard$Apple")), Cond.classLink RX2 32 "java/lang/IllegalStateException", Cond.initialized "java/lang/IllegalStateException", Cond.methodLink RX2 39 yX1_find, Cond.instanceMethod yX1_find, Cond.selects RX1 yX1_find yX1_find, Cond.initialized RX1]
def wsL_rightOf_r2 : List Cond := [Cond.code yX1_find cX1_find 3 (some (.object "SplayOrchard$Apple")), Cond.fieldLink RX1 32 "SplayOrchard$Apple" "size" "I", Cond.methodLink RX1 29 yX1_nearest, Cond.instanceMethod yX1_nearest, Cond.selects RX1 yX1_nearest yX1_nearest, Cond.code yX1_nearest cX1_nearest 4 (some (.object "SplayOrchard$Apple")), Cond.fieldLink RX1 7 "SplayOrchard$Tree" "top" "LSplayOrchard$Apple;", Cond.methodLink RX1 25 yX0_towards, Cond.instanceMethod yX0_towards, Cond.selects RX0 yX0_towards yX0_towards, Cond.initialized RX0, Cond.code yX0_towards cX0_towards 2 (some (.object "SplayOrchard$Apple")), Cond.fieldLink RX0 7 "SplayOrchard$Apple" "size" "I", Cond.fieldLink RX0 17 "SplayOrchard$Apple" "left" "LSplayOrchard$Apple;", Cond.fieldLink RX0 23 "SplayOrchard$Apple" "right" "LSplayOrchard$Apple;", Cond.methodLink RX2 105 yX2_sizeOrNone, Cond.static yX2_sizeOrNone, Cond.code yX2_sizeOrNone cX2_sizeOrNone 1 (some .int), Cond.fieldLink RX2 130 "SplayOrchard$Apple" "size" "I"]
def wsL_rightOf : List Cond := .codeWith yL_rightOf cL_rightOf 5 (some .int) [(0, 10, 13, 13), (0, 10, 17, 17)] :: ((wsL_rightOf_r1 ++ wsL_rightOf_r2) ++ wsX00 ++ wsX20 ++ wsX10 ++ (vx_atS RX2 129 "java/lang/IndexOutOfBoundsException" ["java/lang/RuntimeException", "java/lang/Exception"]).filter goodWord ++ (vx_atS RX2 36 "java/lang/IllegalStateException" ["java/lang/RuntimeException", "java/lang/Exception"]).filter goodWord)
def wsL_below_r1 : List Cond := [Cond.classLink RL 13 "java/lang/IndexOutOfBoundsException", Cond.classLink RL 17 "java/lang/IllegalStateException", Cond.methodLink RL 79 yX2_below, Cond.instanceMethod yX2_below, Cond.selects RX2 yX2_below yX2_below, Cond.initialized RX2, Cond.code yX2_below cX2_below 3 (some .int), Cond.methodLink RX2 20 yX2_treeOf, Cond.instanceMethod yX2_treeOf, Cond.selects RX2 yX2_treeOf yX2_treeOf, Cond.code yX2_treeOf cX2_treeOf 2 (some (.object "SplayOrchard$Tree")), Cond.classLink RX2 125 "java/lang/IndexOutOfBoundsException", Cond.initialized "java/lang/IndexOutOfBoundsException", Cond.fieldLink RX2 11 "SplayOrchard" "rows" "[LSplayOrchard$Tree;", Cond.methodLink RX2 58 yX2_appleOf, Cond.static yX2_appleOf, Cond.code yX2_appleOf cX2_appleOf 3 (some (.object "SplayOrchard$Apple")), Cond.classLink RX2 32 "java/lang/IllegalStateException", Cond.initialized "java/lang/IllegalStateException", Cond.methodLink RX2 39 yX1_find, Cond.instanceMethod yX1_find, Cond.selects RX1 yX1_find yX1_find, Cond.initialized RX1, Cond.code yX1_find cX1_find 3 (some (.object "SplayOrchard$Apple"))]
def wsL_below_r2 : List Cond := [Cond.fieldLink RX1 32 "SplayOrchard$Apple" "size" "I", Cond.methodLink RX1 29 yX1_nearest, Cond.instanceMethod yX1_nearest, Cond.selects RX1 yX1_nearest yX1_nearest, Cond.code yX1_nearest cX1_nearest 4 (some (.object "SplayOrchard$Apple")), Cond.fieldLink RX1 7 "SplayOrchard$Tree" "top" "LSplayOrchard$Apple;", Cond.methodLink RX1 25 yX0_towards, Cond.instanceMethod yX0_towards, Cond.selects RX0 yX0_towards yX0_towards, Cond.initialized RX0, Cond.code yX0_towards cX0_towards 2 (some (.object "SplayOrchard$Apple")), Cond.fieldLink RX0 7 "SplayOrchard$Apple" "size" "I", Cond.fieldLink RX0 17 "SplayOrchard$Apple" "left" "LSplayOrchard$Apple;", Cond.fieldLink RX0 23 "SplayOrchard$Apple" "right" "LSplayOrchard$Apple;", Cond.methodLink RX2 146 yX0_countUnder, Cond.instanceMethod yX0_countUnder, Cond.selects RX0 yX0_countUnder yX0_countUnder, Cond.code yX0_countUnder cX0_countUnder 4 (some .int), Cond.methodLink RX0 41 yX0_greatestUnder, Cond.instanceMethod yX0_greatestUnder, Cond.selects RX0 yX0_greatestUnder yX0_greatestUnder, Cond.code yX0_greatestUnder cX0_greatestUnder 2 (some (.object "SplayOrchard$Apple")), Cond.methodLink RX0 37 yX0_leastUnder, Cond.instanceMethod yX0_leastUnder]
def wsL_below_r3 : List Cond := [Cond.selects RX0 yX0_leastUnder yX0_leastUnder, Cond.code yX0_leastUnder cX0_leastUnder 2 (some (.object "SplayOrchard$Apple")), Cond.methodLink RX0 44 yX0_next, Cond.instanceMethod yX0_next, Cond.selects RX0 yX0_next yX0_next, Cond.code yX0_next cX0_next 2 (some (.object "SplayOrchard$Apple")), Cond.fieldLink RX0 20 "SplayOrchard$Apple" "up" "LSplayOrchard$Apple;"]
def wsL_below : List Cond := .codeWith yL_below cL_below 5 (some .int) [(0, 10, 13, 13), (0, 10, 17, 17)] :: ((wsL_below_r1 ++ (wsL_below_r2 ++ wsL_below_r3)) ++ wsX20 ++ wsX00 ++ wsX10 ++ (vx_atS RX2 129 "java/lang/IndexOutOfBoundsException" ["java/lang/RuntimeException", "java/lang/Exception"]).filter goodWord ++ (vx_atS RX2 36 "java/lang/IllegalStateException" ["java/lang/RuntimeException", "java/lang/Exception"]).filter goodWord)
def wsL_eaten_r1 : List Cond := [Cond.classLink RL 13 "java/lang/IndexOutOfBoundsException", Cond.classLink RL 17 "java/lang/IllegalStateException", Cond.methodLink RL 82 yX2_eaten, Cond.instanceMethod yX2_eaten, Cond.selects RX2 yX2_eaten yX2_eaten, Cond.initialized RX2, Cond.code yX2_eaten cX2_eaten 3 (some .int), Cond.fieldLink RX2 62 "SplayOrchard$Apple" "bites" "I", Cond.methodLink RX2 20 yX2_treeOf, Cond.instanceMethod yX2_treeOf, Cond.selects RX2 yX2_treeOf yX2_treeOf, Cond.code yX2_treeOf cX2_treeOf 2 (some (.object "SplayOrchard$Tree")), Cond.classLink RX2 125 "java/lang/IndexOutOfBoundsException", Cond.initialized "java/lang/IndexOutOfBoundsException", Cond.fieldLink RX2 11 "SplayOrchard" "rows" "[LSplayOrchard$Tree;", Cond.methodLink RX2 58 yX2_appleOf, Cond.static yX2_appleOf, Cond.code yX2_appleOf cX2_appleOf 3 (some (.object "SplayOrchard$Apple")), Cond.classLink RX2 32 "java/lang/IllegalStateException", Cond.initialized "java/lang/IllegalStateException", Cond.methodLink RX2 39 yX1_find, Cond.instanceMethod yX1_find, Cond.selects RX1 yX1_find yX1_find, Cond.initialized RX1]
def wsL_eaten_r2 : List Cond := [Cond.code yX1_find cX1_find 3 (some (.object "SplayOrchard$Apple")), Cond.fieldLink RX1 32 "SplayOrchard$Apple" "size" "I", Cond.methodLink RX1 29 yX1_nearest, Cond.instanceMethod yX1_nearest, Cond.selects RX1 yX1_nearest yX1_nearest, Cond.code yX1_nearest cX1_nearest 4 (some (.object "SplayOrchard$Apple")), Cond.fieldLink RX1 7 "SplayOrchard$Tree" "top" "LSplayOrchard$Apple;", Cond.methodLink RX1 25 yX0_towards, Cond.instanceMethod yX0_towards, Cond.selects RX0 yX0_towards yX0_towards, Cond.initialized RX0, Cond.code yX0_towards cX0_towards 2 (some (.object "SplayOrchard$Apple")), Cond.fieldLink RX0 7 "SplayOrchard$Apple" "size" "I", Cond.fieldLink RX0 17 "SplayOrchard$Apple" "left" "LSplayOrchard$Apple;", Cond.fieldLink RX0 23 "SplayOrchard$Apple" "right" "LSplayOrchard$Apple;"]
def wsL_eaten : List Cond := .codeWith yL_eaten cL_eaten 5 (some .int) [(0, 10, 13, 13), (0, 10, 17, 17)] :: ((wsL_eaten_r1 ++ wsL_eaten_r2) ++ wsX00 ++ wsX20 ++ wsX10 ++ (vx_atS RX2 129 "java/lang/IndexOutOfBoundsException" ["java/lang/RuntimeException", "java/lang/Exception"]).filter goodWord ++ (vx_atS RX2 36 "java/lang/IllegalStateException" ["java/lang/RuntimeException", "java/lang/Exception"]).filter goodWord)
def wsL_favourite_r1 : List Cond := [Cond.classLink RL 13 "java/lang/IndexOutOfBoundsException", Cond.methodLink RL 85 yX2_favourite, Cond.instanceMethod yX2_favourite, Cond.selects RX2 yX2_favourite yX2_favourite, Cond.initialized RX2, Cond.code yX2_favourite cX2_favourite 2 (some .int), Cond.methodLink RX2 20 yX2_treeOf, Cond.instanceMethod yX2_treeOf, Cond.selects RX2 yX2_treeOf yX2_treeOf, Cond.code yX2_treeOf cX2_treeOf 2 (some (.object "SplayOrchard$Tree")), Cond.classLink RX2 125 "java/lang/IndexOutOfBoundsException", Cond.initialized "java/lang/IndexOutOfBoundsException", Cond.fieldLink RX2 11 "SplayOrchard" "rows" "[LSplayOrchard$Tree;", Cond.methodLink RX2 149 yX1_mostBitten, Cond.instanceMethod yX1_mostBitten, Cond.selects RX1 yX1_mostBitten yX1_mostBitten, Cond.initialized RX1, Cond.code yX1_mostBitten cX1_mostBitten 3 (some (.object "SplayOrchard$Apple")), Cond.fieldLink RX1 78 "SplayOrchard$Apple" "bites" "I", Cond.methodLink RX1 57 yX1_first, Cond.instanceMethod yX1_first, Cond.selects RX1 yX1_first yX1_first, Cond.code yX1_first cX1_first 1 (some (.object "SplayOrchard$Apple")), Cond.fieldLink RX1 7 "SplayOrchard$Tree" "top" "LSplayOrchard$Apple;"]
def wsL_favourite_r2 : List Cond := [Cond.methodLink RX1 18 yX0_leastUnder, Cond.instanceMethod yX0_leastUnder, Cond.selects RX0 yX0_leastUnder yX0_leastUnder, Cond.initialized RX0, Cond.code yX0_leastUnder cX0_leastUnder 2 (some (.object "SplayOrchard$Apple")), Cond.fieldLink RX0 17 "SplayOrchard$Apple" "left" "LSplayOrchard$Apple;", Cond.methodLink RX1 60 yX0_next, Cond.instanceMethod yX0_next, Cond.selects RX0 yX0_next yX0_next, Cond.code yX0_next cX0_next 2 (some (.object "SplayOrchard$Apple")), Cond.fieldLink RX0 23 "SplayOrchard$Apple" "right" "LSplayOrchard$Apple;", Cond.fieldLink RX0 20 "SplayOrchard$Apple" "up" "LSplayOrchard$Apple;", Cond.methodLink RX0 37 yX0_leastUnder, Cond.methodLink RX2 105 yX2_sizeOrNone, Cond.static yX2_sizeOrNone, Cond.code yX2_sizeOrNone cX2_sizeOrNone 1 (some .int), Cond.fieldLink RX2 130 "SplayOrchard$Apple" "size" "I"]
def wsL_favourite : List Cond := .codeWith yL_favourite cL_favourite 4 (some .int) [(0, 9, 12, 13)] :: ((wsL_favourite_r1 ++ wsL_favourite_r2) ++ wsX20 ++ wsX00 ++ wsX10 ++ (vx_atS RX2 129 "java/lang/IndexOutOfBoundsException" ["java/lang/RuntimeException", "java/lang/Exception"]).filter goodWord)
def wsL_meet_r1 : List Cond := [Cond.classLink RL 13 "java/lang/IndexOutOfBoundsException", Cond.classLink RL 17 "java/lang/IllegalStateException", Cond.methodLink RL 88 yX2_meet, Cond.instanceMethod yX2_meet, Cond.selects RX2 yX2_meet yX2_meet, Cond.initialized RX2, Cond.code yX2_meet cX2_meet 7 (some .int), Cond.methodLink RX2 20 yX2_treeOf, Cond.instanceMethod yX2_treeOf, Cond.selects RX2 yX2_treeOf yX2_treeOf, Cond.code yX2_treeOf cX2_treeOf 2 (some (.object "SplayOrchard$Tree")), Cond.classLink RX2 125 "java/lang/IndexOutOfBoundsException", Cond.initialized "java/lang/IndexOutOfBoundsException", Cond.fieldLink RX2 11 "SplayOrchard" "rows" "[LSplayOrchard$Tree;", Cond.methodLink RX2 58 yX2_appleOf, Cond.static yX2_appleOf, Cond.code yX2_appleOf cX2_appleOf 3 (some (.object "SplayOrchard$Apple")), Cond.classLink RX2 32 "java/lang/IllegalStateException", Cond.initialized "java/lang/IllegalStateException", Cond.methodLink RX2 39 yX1_find, Cond.instanceMethod yX1_find, Cond.selects RX1 yX1_find yX1_find, Cond.initialized RX1, Cond.code yX1_find cX1_find 3 (some (.object "SplayOrchard$Apple"))]
def wsL_meet_r2 : List Cond := [Cond.fieldLink RX1 32 "SplayOrchard$Apple" "size" "I", Cond.methodLink RX1 29 yX1_nearest, Cond.instanceMethod yX1_nearest, Cond.selects RX1 yX1_nearest yX1_nearest, Cond.code yX1_nearest cX1_nearest 4 (some (.object "SplayOrchard$Apple")), Cond.fieldLink RX1 7 "SplayOrchard$Tree" "top" "LSplayOrchard$Apple;", Cond.methodLink RX1 25 yX0_towards, Cond.instanceMethod yX0_towards, Cond.selects RX0 yX0_towards yX0_towards, Cond.initialized RX0, Cond.code yX0_towards cX0_towards 2 (some (.object "SplayOrchard$Apple")), Cond.fieldLink RX0 7 "SplayOrchard$Apple" "size" "I", Cond.fieldLink RX0 17 "SplayOrchard$Apple" "left" "LSplayOrchard$Apple;", Cond.fieldLink RX0 23 "SplayOrchard$Apple" "right" "LSplayOrchard$Apple;", Cond.methodLink RX2 152 yX1_meeting, Cond.instanceMethod yX1_meeting, Cond.selects RX1 yX1_meeting yX1_meeting, Cond.code yX1_meeting cX1_meeting 6 (some (.object "SplayOrchard$Apple")), Cond.methodLink RX1 81 Lib.Math.min.name, Cond.static Lib.Math.min.name, Cond.initialized "java/lang/Math", Cond.code Lib.Math.min.name Lib.Math.min.code 2 (some .int), Cond.methodLink RX1 66 Lib.Math.max.name, Cond.static Lib.Math.max.name]
def wsL_meet_r3 : List Cond := [Cond.code Lib.Math.max.name Lib.Math.max.code 2 (some .int), Cond.methodLink RX2 105 yX2_sizeOrNone, Cond.static yX2_sizeOrNone, Cond.code yX2_sizeOrNone cX2_sizeOrNone 1 (some .int), Cond.fieldLink RX2 130 "SplayOrchard$Apple" "size" "I"]
def wsL_meet : List Cond := .codeWith yL_meet cL_meet 6 (some .int) [(0, 12, 15, 13), (0, 12, 19, 17)] :: ((wsL_meet_r1 ++ (wsL_meet_r2 ++ wsL_meet_r3)) ++ wsX20 ++ wsX00 ++ wsX10 ++ (vx_atS RX2 129 "java/lang/IndexOutOfBoundsException" ["java/lang/RuntimeException", "java/lang/Exception"]).filter goodWord ++ (vx_atS RX2 36 "java/lang/IllegalStateException" ["java/lang/RuntimeException", "java/lang/Exception"]).filter goodWord)
def wsL_depthBehind_r1 : List Cond := [Cond.classLink RL 13 "java/lang/IndexOutOfBoundsException", Cond.classLink RL 17 "java/lang/IllegalStateException", Cond.methodLink RL 91 yX2_depthBehind, Cond.instanceMethod yX2_depthBehind, Cond.selects RX2 yX2_depthBehind yX2_depthBehind, Cond.initialized RX2, Cond.code yX2_depthBehind cX2_depthBehind 5 (some .int), Cond.fieldLink RX2 16 "SplayOrchard" "trial" "LSplayOrchard$Tree;", Cond.methodLink RX2 20 yX2_treeOf, Cond.instanceMethod yX2_treeOf, Cond.selects RX2 yX2_treeOf yX2_treeOf, Cond.code yX2_treeOf cX2_treeOf 2 (some (.object "SplayOrchard$Tree")), Cond.classLink RX2 125 "java/lang/IndexOutOfBoundsException", Cond.initialized "java/lang/IndexOutOfBoundsException", Cond.fieldLink RX2 11 "SplayOrchard" "rows" "[LSplayOrchard$Tree;", Cond.methodLink RX2 58 yX2_appleOf, Cond.static yX2_appleOf, Cond.code yX2_appleOf cX2_appleOf 3 (some (.object "SplayOrchard$Apple")), Cond.classLink RX2 32 "java/lang/IllegalStateException", Cond.initialized "java/lang/IllegalStateException", Cond.methodLink RX2 39 yX1_find, Cond.instanceMethod yX1_find, Cond.selects RX1 yX1_find yX1_find, Cond.initialized RX1]
def wsL_depthBehind_r2 : List Cond := [Cond.code yX1_find cX1_find 3 (some (.object "SplayOrchard$Apple")), Cond.fieldLink RX1 32 "SplayOrchard$Apple" "size" "I", Cond.methodLink RX1 29 yX1_nearest, Cond.instanceMethod yX1_nearest, Cond.selects RX1 yX1_nearest yX1_nearest, Cond.code yX1_nearest cX1_nearest 4 (some (.object "SplayOrchard$Apple")), Cond.fieldLink RX1 7 "SplayOrchard$Tree" "top" "LSplayOrchard$Apple;", Cond.methodLink RX1 25 yX0_towards, Cond.instanceMethod yX0_towards, Cond.selects RX0 yX0_towards yX0_towards, Cond.initialized RX0, Cond.code yX0_towards cX0_towards 2 (some (.object "SplayOrchard$Apple")), Cond.fieldLink RX0 7 "SplayOrchard$Apple" "size" "I", Cond.fieldLink RX0 17 "SplayOrchard$Apple" "left" "LSplayOrchard$Apple;", Cond.fieldLink RX0 23 "SplayOrchard$Apple" "right" "LSplayOrchard$Apple;", Cond.methodLink RX2 156 yX2_tryEating, Cond.instanceMethod yX2_tryEating, Cond.selects RX2 yX2_tryEating yX2_tryEating, Cond.code yX2_tryEating cX2_tryEating 4 none, Cond.fieldLink RX2 221 "SplayOrchard$Apple" "standIn" "LSplayOrchard$Apple;", Cond.methodLink RX2 217 yX1_standInFor, Cond.instanceMethod yX1_standInFor, Cond.selects RX1 yX1_standInFor yX1_standInFor, Cond.code yX1_standInFor cX1_standInFor 3 none]
def wsL_depthBehind_r3 : List Cond := [Cond.methodLink RX1 57 yX1_first, Cond.instanceMethod yX1_first, Cond.selects RX1 yX1_first yX1_first, Cond.code yX1_first cX1_first 1 (some (.object "SplayOrchard$Apple")), Cond.methodLink RX1 18 yX0_leastUnder, Cond.instanceMethod yX0_leastUnder, Cond.selects RX0 yX0_leastUnder yX0_leastUnder, Cond.code yX0_leastUnder cX0_leastUnder 2 (some (.object "SplayOrchard$Apple")), Cond.methodLink RX1 84 yX0_linkStandIn, Cond.instanceMethod yX0_linkStandIn, Cond.selects RX0 yX0_linkStandIn yX0_linkStandIn, Cond.code yX0_linkStandIn cX0_linkStandIn 1 none, Cond.fieldLink RX0 13 "SplayOrchard$Apple" "standIn" "LSplayOrchard$Apple;", Cond.fieldLink RX0 20 "SplayOrchard$Apple" "up" "LSplayOrchard$Apple;", Cond.methodLink RX0 47 yX0_standInOf, Cond.static yX0_standInOf, Cond.code yX0_standInOf cX0_standInOf 1 (some (.object "SplayOrchard$Apple")), Cond.methodLink RX1 60 yX0_next, Cond.instanceMethod yX0_next, Cond.selects RX0 yX0_next yX0_next, Cond.code yX0_next cX0_next 2 (some (.object "SplayOrchard$Apple")), Cond.methodLink RX0 37 yX0_leastUnder, Cond.methodLink RX1 87 yX0_standInOf, Cond.methodLink RX2 215 yX1_bringUp]
def wsL_depthBehind_r4 : List Cond := [Cond.instanceMethod yX1_bringUp, Cond.selects RX1 yX1_bringUp yX1_bringUp, Cond.code yX1_bringUp cX1_bringUp 6 (some .int), Cond.fieldLink RX1 13 "SplayOrchard$Apple" "up" "LSplayOrchard$Apple;", Cond.methodLink RX1 46 yX0_depth, Cond.instanceMethod yX0_depth, Cond.selects RX0 yX0_depth yX0_depth, Cond.code yX0_depth cX0_depth 3 (some .int), Cond.methodLink RX1 50 yX0_isOnTheLeft, Cond.instanceMethod yX0_isOnTheLeft, Cond.selects RX0 yX0_isOnTheLeft yX0_isOnTheLeft, Cond.code yX0_isOnTheLeft cX0_isOnTheLeft 1 (some .boolean), Cond.methodLink RX1 54 yX0_turn, Cond.instanceMethod yX0_turn, Cond.selects RX0 yX0_turn yX0_turn, Cond.code yX0_turn cX0_turn 4 none, Cond.methodLink RX0 26 yX0_isOnTheLeft, Cond.methodLink RX0 30 yX0_hangLeft, Cond.instanceMethod yX0_hangLeft, Cond.selects RX0 yX0_hangLeft yX0_hangLeft, Cond.code yX0_hangLeft cX0_hangLeft 2 none, Cond.methodLink RX0 34 yX0_hangRight, Cond.instanceMethod yX0_hangRight, Cond.selects RX0 yX0_hangRight yX0_hangRight]
def wsL_depthBehind_r5 : List Cond := [Cond.code yX0_hangRight cX0_hangRight 2 none, Cond.methodLink RX2 140 yX0_depth]
def wsL_depthBehind : List Cond := .codeWith yL_depthBehind cL_depthBehind 6 (some .int) [(0, 12, 15, 13), (0, 12, 19, 17)] :: ((wsL_depthBehind_r1 ++ (wsL_depthBehind_r2 ++ (wsL_depthBehind_r3 ++ (wsL_depthBehind_r4 ++ wsL_depthBehind_r5)))) ++ wsX20 ++ wsX00 ++ wsX10 ++ (vx_atS RX2 129 "java/lang/IndexOutOfBoundsException" ["java/lang/RuntimeException", "java/lang/Exception"]).filter goodWord ++ (vx_atS RX2 36 "java/lang/IllegalStateException" ["java/lang/RuntimeException", "java/lang/Exception"]).filter goodWord)
def wsL_heightBehind_r1 : List Cond := [Cond.classLink RL 13 "java/lang/IndexOutOfBoundsException", Cond.classLink RL 17 "java/lang/IllegalStateException", Cond.methodLink RL 94 yX2_heightBehind, Cond.instanceMethod yX2_heightBehind, Cond.selects RX2 yX2_heightBehind yX2_heightBehind, Cond.initialized RX2, Cond.code yX2_heightBehind cX2_heightBehind 4 (some .int), Cond.fieldLink RX2 16 "SplayOrchard" "trial" "LSplayOrchard$Tree;", Cond.methodLink RX2 20 yX2_treeOf, Cond.instanceMethod yX2_treeOf, Cond.selects RX2 yX2_treeOf yX2_treeOf, Cond.code yX2_treeOf cX2_treeOf 2 (some (.object "SplayOrchard$Tree")), Cond.classLink RX2 125 "java/lang/IndexOutOfBoundsException", Cond.initialized "java/lang/IndexOutOfBoundsException", Cond.fieldLink RX2 11 "SplayOrchard" "rows" "[LSplayOrchard$Tree;", Cond.methodLink RX2 58 yX2_appleOf, Cond.static yX2_appleOf, Cond.code yX2_appleOf cX2_appleOf 3 (some (.object "SplayOrchard$Apple")), Cond.classLink RX2 32 "java/lang/IllegalStateException", Cond.initialized "java/lang/IllegalStateException", Cond.methodLink RX2 39 yX1_find, Cond.instanceMethod yX1_find, Cond.selects RX1 yX1_find yX1_find, Cond.initialized RX1]
def wsL_heightBehind_r2 : List Cond := [Cond.code yX1_find cX1_find 3 (some (.object "SplayOrchard$Apple")), Cond.fieldLink RX1 32 "SplayOrchard$Apple" "size" "I", Cond.methodLink RX1 29 yX1_nearest, Cond.instanceMethod yX1_nearest, Cond.selects RX1 yX1_nearest yX1_nearest, Cond.code yX1_nearest cX1_nearest 4 (some (.object "SplayOrchard$Apple")), Cond.fieldLink RX1 7 "SplayOrchard$Tree" "top" "LSplayOrchard$Apple;", Cond.methodLink RX1 25 yX0_towards, Cond.instanceMethod yX0_towards, Cond.selects RX0 yX0_towards yX0_towards, Cond.initialized RX0, Cond.code yX0_towards cX0_towards 2 (some (.object "SplayOrchard$Apple")), Cond.fieldLink RX0 7 "SplayOrchard$Apple" "size" "I", Cond.fieldLink RX0 17 "SplayOrchard$Apple" "left" "LSplayOrchard$Apple;", Cond.fieldLink RX0 23 "SplayOrchard$Apple" "right" "LSplayOrchard$Apple;", Cond.methodLink RX2 156 yX2_tryEating, Cond.instanceMethod yX2_tryEating, Cond.selects RX2 yX2_tryEating yX2_tryEating, Cond.code yX2_tryEating cX2_tryEating 4 none, Cond.fieldLink RX2 221 "SplayOrchard$Apple" "standIn" "LSplayOrchard$Apple;", Cond.methodLink RX2 217 yX1_standInFor, Cond.instanceMethod yX1_standInFor, Cond.selects RX1 yX1_standInFor yX1_standInFor, Cond.code yX1_standInFor cX1_standInFor 3 none]
def wsL_heightBehind_r3 : List Cond := [Cond.methodLink RX1 57 yX1_first, Cond.instanceMethod yX1_first, Cond.selects RX1 yX1_first yX1_first, Cond.code yX1_first cX1_first 1 (some (.object "SplayOrchard$Apple")), Cond.methodLink RX1 18 yX0_leastUnder, Cond.instanceMethod yX0_leastUnder, Cond.selects RX0 yX0_leastUnder yX0_leastUnder, Cond.code yX0_leastUnder cX0_leastUnder 2 (some (.object "SplayOrchard$Apple")), Cond.methodLink RX1 84 yX0_linkStandIn, Cond.instanceMethod yX0_linkStandIn, Cond.selects RX0 yX0_linkStandIn yX0_linkStandIn, Cond.code yX0_linkStandIn cX0_linkStandIn 1 none, Cond.fieldLink RX0 13 "SplayOrchard$Apple" "standIn" "LSplayOrchard$Apple;", Cond.fieldLink RX0 20 "SplayOrchard$Apple" "up" "LSplayOrchard$Apple;", Cond.methodLink RX0 47 yX0_standInOf, Cond.static yX0_standInOf, Cond.code yX0_standInOf cX0_standInOf 1 (some (.object "SplayOrchard$Apple")), Cond.methodLink RX1 60 yX0_next, Cond.instanceMethod yX0_next, Cond.selects RX0 yX0_next yX0_next, Cond.code yX0_next cX0_next 2 (some (.object "SplayOrchard$Apple")), Cond.methodLink RX0 37 yX0_leastUnder, Cond.methodLink RX1 87 yX0_standInOf, Cond.methodLink RX2 215 yX1_bringUp]
def wsL_heightBehind_r4 : List Cond := [Cond.instanceMethod yX1_bringUp, Cond.selects RX1 yX1_bringUp yX1_bringUp, Cond.code yX1_bringUp cX1_bringUp 6 (some .int), Cond.fieldLink RX1 13 "SplayOrchard$Apple" "up" "LSplayOrchard$Apple;", Cond.methodLink RX1 46 yX0_depth, Cond.instanceMethod yX0_depth, Cond.selects RX0 yX0_depth yX0_depth, Cond.code yX0_depth cX0_depth 3 (some .int), Cond.methodLink RX1 50 yX0_isOnTheLeft, Cond.instanceMethod yX0_isOnTheLeft, Cond.selects RX0 yX0_isOnTheLeft yX0_isOnTheLeft, Cond.code yX0_isOnTheLeft cX0_isOnTheLeft 1 (some .boolean), Cond.methodLink RX1 54 yX0_turn, Cond.instanceMethod yX0_turn, Cond.selects RX0 yX0_turn yX0_turn, Cond.code yX0_turn cX0_turn 4 none, Cond.methodLink RX0 26 yX0_isOnTheLeft, Cond.methodLink RX0 30 yX0_hangLeft, Cond.instanceMethod yX0_hangLeft, Cond.selects RX0 yX0_hangLeft yX0_hangLeft, Cond.code yX0_hangLeft cX0_hangLeft 2 none, Cond.methodLink RX0 34 yX0_hangRight, Cond.instanceMethod yX0_hangRight, Cond.selects RX0 yX0_hangRight yX0_hangRight]
def wsL_heightBehind_r5 : List Cond := [Cond.code yX0_hangRight cX0_hangRight 2 none, Cond.methodLink RX2 109 yX1_levels, Cond.instanceMethod yX1_levels, Cond.selects RX1 yX1_levels yX1_levels, Cond.code yX1_levels cX1_levels 3 (some .int), Cond.methodLink RX1 66 Lib.Math.max.name, Cond.static Lib.Math.max.name, Cond.initialized "java/lang/Math", Cond.code Lib.Math.max.name Lib.Math.max.code 2 (some .int)]
def wsL_heightBehind : List Cond := .codeWith yL_heightBehind cL_heightBehind 5 (some .int) [(0, 10, 13, 13), (0, 10, 17, 17)] :: ((wsL_heightBehind_r1 ++ (wsL_heightBehind_r2 ++ (wsL_heightBehind_r3 ++ (wsL_heightBehind_r4 ++ wsL_heightBehind_r5)))) ++ wsX20 ++ wsX00 ++ wsX10 ++ (vx_atS RX2 129 "java/lang/IndexOutOfBoundsException" ["java/lang/RuntimeException", "java/lang/Exception"]).filter goodWord ++ (vx_atS RX2 36 "java/lang/IllegalStateException" ["java/lang/RuntimeException", "java/lang/Exception"]).filter goodWord)
def wsL_bestToEat_r1 : List Cond := [Cond.classLink RL 13 "java/lang/IndexOutOfBoundsException", Cond.methodLink RL 97 yX2_bestToEat, Cond.instanceMethod yX2_bestToEat, Cond.selects RX2 yX2_bestToEat yX2_bestToEat, Cond.initialized RX2, Cond.code yX2_bestToEat cX2_bestToEat 7 (some .int), Cond.fieldLink RX2 16 "SplayOrchard" "trial" "LSplayOrchard$Tree;", Cond.methodLink RX2 20 yX2_treeOf, Cond.instanceMethod yX2_treeOf, Cond.selects RX2 yX2_treeOf yX2_treeOf, Cond.code yX2_treeOf cX2_treeOf 2 (some (.object "SplayOrchard$Tree")), Cond.classLink RX2 125 "java/lang/IndexOutOfBoundsException", Cond.initialized "java/lang/IndexOutOfBoundsException", Cond.fieldLink RX2 11 "SplayOrchard" "rows" "[LSplayOrchard$Tree;", Cond.methodLink RX2 115 yX1_first, Cond.instanceMethod yX1_first, Cond.selects RX1 yX1_first yX1_first, Cond.initialized RX1, Cond.code yX1_first cX1_first 1 (some (.object "SplayOrchard$Apple")), Cond.fieldLink RX1 7 "SplayOrchard$Tree" "top" "LSplayOrchard$Apple;", Cond.methodLink RX1 18 yX0_leastUnder, Cond.instanceMethod yX0_leastUnder, Cond.selects RX0 yX0_leastUnder yX0_leastUnder, Cond.initialized RX0]
def wsL_bestToEat_r2 : List Cond := [Cond.code yX0_leastUnder cX0_leastUnder 2 (some (.object "SplayOrchard$Apple")), Cond.fieldLink RX0 17 "SplayOrchard$Apple" "left" "LSplayOrchard$Apple;", Cond.methodLink RX2 156 yX2_tryEating, Cond.instanceMethod yX2_tryEating, Cond.selects RX2 yX2_tryEating yX2_tryEating, Cond.code yX2_tryEating cX2_tryEating 4 none, Cond.fieldLink RX2 221 "SplayOrchard$Apple" "standIn" "LSplayOrchard$Apple;", Cond.methodLink RX2 217 yX1_standInFor, Cond.instanceMethod yX1_standInFor, Cond.selects RX1 yX1_standInFor yX1_standInFor, Cond.code yX1_standInFor cX1_standInFor 3 none, Cond.methodLink RX1 57 yX1_first, Cond.methodLink RX1 84 yX0_linkStandIn, Cond.instanceMethod yX0_linkStandIn, Cond.selects RX0 yX0_linkStandIn yX0_linkStandIn, Cond.code yX0_linkStandIn cX0_linkStandIn 1 none, Cond.fieldLink RX0 13 "SplayOrchard$Apple" "standIn" "LSplayOrchard$Apple;", Cond.fieldLink RX0 20 "SplayOrchard$Apple" "up" "LSplayOrchard$Apple;", Cond.fieldLink RX0 23 "SplayOrchard$Apple" "right" "LSplayOrchard$Apple;", Cond.methodLink RX0 47 yX0_standInOf, Cond.static yX0_standInOf, Cond.code yX0_standInOf cX0_standInOf 1 (some (.object "SplayOrchard$Apple")), Cond.methodLink RX1 60 yX0_next, Cond.instanceMethod yX0_next]
def wsL_bestToEat_r3 : List Cond := [Cond.selects RX0 yX0_next yX0_next, Cond.code yX0_next cX0_next 2 (some (.object "SplayOrchard$Apple")), Cond.methodLink RX0 37 yX0_leastUnder, Cond.methodLink RX1 87 yX0_standInOf, Cond.methodLink RX2 215 yX1_bringUp, Cond.instanceMethod yX1_bringUp, Cond.selects RX1 yX1_bringUp yX1_bringUp, Cond.code yX1_bringUp cX1_bringUp 6 (some .int), Cond.fieldLink RX1 13 "SplayOrchard$Apple" "up" "LSplayOrchard$Apple;", Cond.methodLink RX1 46 yX0_depth, Cond.instanceMethod yX0_depth, Cond.selects RX0 yX0_depth yX0_depth, Cond.code yX0_depth cX0_depth 3 (some .int), Cond.methodLink RX1 50 yX0_isOnTheLeft, Cond.instanceMethod yX0_isOnTheLeft, Cond.selects RX0 yX0_isOnTheLeft yX0_isOnTheLeft, Cond.code yX0_isOnTheLeft cX0_isOnTheLeft 1 (some .boolean), Cond.methodLink RX1 54 yX0_turn, Cond.instanceMethod yX0_turn, Cond.selects RX0 yX0_turn yX0_turn, Cond.code yX0_turn cX0_turn 4 none, Cond.methodLink RX0 26 yX0_isOnTheLeft, Cond.methodLink RX0 30 yX0_hangLeft, Cond.instanceMethod yX0_hangLeft]
def wsL_bestToEat_r4 : List Cond := [Cond.selects RX0 yX0_hangLeft yX0_hangLeft, Cond.code yX0_hangLeft cX0_hangLeft 2 none, Cond.methodLink RX0 34 yX0_hangRight, Cond.instanceMethod yX0_hangRight, Cond.selects RX0 yX0_hangRight yX0_hangRight, Cond.code yX0_hangRight cX0_hangRight 2 none, Cond.methodLink RX2 112 yX1_depthSum, Cond.instanceMethod yX1_depthSum, Cond.selects RX1 yX1_depthSum yX1_depthSum, Cond.code yX1_depthSum cX1_depthSum 3 (some .int), Cond.methodLink RX2 159 yX0_next, Cond.methodLink RX2 105 yX2_sizeOrNone, Cond.static yX2_sizeOrNone, Cond.code yX2_sizeOrNone cX2_sizeOrNone 1 (some .int), Cond.fieldLink RX2 130 "SplayOrchard$Apple" "size" "I"]
def wsL_bestToEat : List Cond := .codeWith yL_bestToEat cL_bestToEat 4 (some .int) [(0, 9, 12, 13)] :: ((wsL_bestToEat_r1 ++ (wsL_bestToEat_r2 ++ (wsL_bestToEat_r3 ++ wsL_bestToEat_r4))) ++ wsX20 ++ wsX10 ++ wsX00 ++ (vx_atS RX2 129 "java/lang/IndexOutOfBoundsException" ["java/lang/RuntimeException", "java/lang/Exception"]).filter goodWord)
def wsL_plantDepth_r1 : List Cond := [Cond.classLink RL 13 "java/lang/IndexOutOfBoundsException", Cond.classLink RL 15 "java/lang/IllegalArgumentException", Cond.methodLink RL 100 yX2_plantDepth, Cond.instanceMethod yX2_plantDepth, Cond.selects RX2 yX2_plantDepth yX2_plantDepth, Cond.initialized RX2, Cond.code yX2_plantDepth cX2_plantDepth 5 (some .int), Cond.fieldLink RX2 130 "SplayOrchard$Apple" "size" "I", Cond.methodLink RX2 20 yX2_treeOf, Cond.instanceMethod yX2_treeOf, Cond.selects RX2 yX2_treeOf yX2_treeOf, Cond.code yX2_treeOf cX2_treeOf 2 (some (.object "SplayOrchard$Tree")), Cond.classLink RX2 125 "java/lang/IndexOutOfBoundsException", Cond.initialized "java/lang/IndexOutOfBoundsException", Cond.fieldLink RX2 11 "SplayOrchard" "rows" "[LSplayOrchard$Tree;", Cond.methodLink RX2 24 yX2_checkSize, Cond.static yX2_checkSize, Cond.code yX2_checkSize cX2_checkSize 1 none, Cond.classLink RX2 208 "java/lang/IllegalArgumentException", Cond.initialized "java/lang/IllegalArgumentException", Cond.methodLink RX2 162 yX1_nearest, Cond.instanceMethod yX1_nearest, Cond.selects RX1 yX1_nearest yX1_nearest, Cond.initialized RX1]
def wsL_plantDepth_r2 : List Cond := [Cond.code yX1_nearest cX1_nearest 4 (some (.object "SplayOrchard$Apple")), Cond.fieldLink RX1 7 "SplayOrchard$Tree" "top" "LSplayOrchard$Apple;", Cond.methodLink RX1 25 yX0_towards, Cond.instanceMethod yX0_towards, Cond.selects RX0 yX0_towards yX0_towards, Cond.initialized RX0, Cond.code yX0_towards cX0_towards 2 (some (.object "SplayOrchard$Apple")), Cond.fieldLink RX0 7 "SplayOrchard$Apple" "size" "I", Cond.fieldLink RX0 17 "SplayOrchard$Apple" "left" "LSplayOrchard$Apple;", Cond.fieldLink RX0 23 "SplayOrchard$Apple" "right" "LSplayOrchard$Apple;", Cond.methodLink RX2 140 yX0_depth, Cond.instanceMethod yX0_depth, Cond.selects RX0 yX0_depth yX0_depth, Cond.code yX0_depth cX0_depth 3 (some .int), Cond.fieldLink RX0 20 "SplayOrchard$Apple" "up" "LSplayOrchard$Apple;"]
def wsL_plantDepth : List Cond := .codeWith yL_plantDepth cL_plantDepth 5 (some .int) [(0, 10, 13, 13), (0, 10, 17, 15)] :: ((wsL_plantDepth_r1 ++ wsL_plantDepth_r2) ++ wsX00 ++ wsX20 ++ wsX10 ++ (vx_atS RX2 129 "java/lang/IndexOutOfBoundsException" ["java/lang/RuntimeException", "java/lang/Exception"]).filter goodWord ++ (vx_atS RX2 212 "java/lang/IllegalArgumentException" ["java/lang/RuntimeException", "java/lang/Exception"]).filter goodWord)
def wsL_canJoin_r1 : List Cond := [Cond.classLink RL 13 "java/lang/IndexOutOfBoundsException", Cond.methodLink RL 103 yX2_canJoin, Cond.instanceMethod yX2_canJoin, Cond.selects RX2 yX2_canJoin yX2_canJoin, Cond.initialized RX2, Cond.code yX2_canJoin cX2_canJoin 3 (some .boolean), Cond.methodLink RX2 20 yX2_treeOf, Cond.instanceMethod yX2_treeOf, Cond.selects RX2 yX2_treeOf yX2_treeOf, Cond.code yX2_treeOf cX2_treeOf 2 (some (.object "SplayOrchard$Tree")), Cond.classLink RX2 125 "java/lang/IndexOutOfBoundsException", Cond.initialized "java/lang/IndexOutOfBoundsException", Cond.fieldLink RX2 11 "SplayOrchard" "rows" "[LSplayOrchard$Tree;", Cond.methodLink RX2 96 yX2_mayJoin, Cond.static yX2_mayJoin, Cond.code yX2_mayJoin cX2_mayJoin 4 (some .boolean), Cond.fieldLink RX2 130 "SplayOrchard$Apple" "size" "I", Cond.methodLink RX2 119 yX1_last, Cond.instanceMethod yX1_last, Cond.selects RX1 yX1_last yX1_last, Cond.initialized RX1, Cond.code yX1_last cX1_last 1 (some (.object "SplayOrchard$Apple")), Cond.fieldLink RX1 7 "SplayOrchard$Tree" "top" "LSplayOrchard$Apple;", Cond.methodLink RX1 22 yX0_greatestUnder]
def wsL_canJoin_r2 : List Cond := [Cond.instanceMethod yX0_greatestUnder, Cond.selects RX0 yX0_greatestUnder yX0_greatestUnder, Cond.initialized RX0, Cond.code yX0_greatestUnder cX0_greatestUnder 2 (some (.object "SplayOrchard$Apple")), Cond.fieldLink RX0 23 "SplayOrchard$Apple" "right" "LSplayOrchard$Apple;", Cond.methodLink RX2 115 yX1_first, Cond.instanceMethod yX1_first, Cond.selects RX1 yX1_first yX1_first, Cond.code yX1_first cX1_first 1 (some (.object "SplayOrchard$Apple")), Cond.methodLink RX1 18 yX0_leastUnder, Cond.instanceMethod yX0_leastUnder, Cond.selects RX0 yX0_leastUnder yX0_leastUnder, Cond.code yX0_leastUnder cX0_leastUnder 2 (some (.object "SplayOrchard$Apple")), Cond.fieldLink RX0 17 "SplayOrchard$Apple" "left" "LSplayOrchard$Apple;"]
def wsL_canJoin : List Cond := .codeWith yL_canJoin cL_canJoin 5 (some .int) [(0, 17, 20, 13)] :: ((wsL_canJoin_r1 ++ wsL_canJoin_r2) ++ wsX20 ++ wsX00 ++ wsX10 ++ (vx_atS RX2 129 "java/lang/IndexOutOfBoundsException" ["java/lang/RuntimeException", "java/lang/Exception"]).filter goodWord)
def wsL_meanDepth_r1 : List Cond := [Cond.classLink RL 13 "java/lang/IndexOutOfBoundsException", Cond.methodLink RL 106 yX2_meanDepth, Cond.instanceMethod yX2_meanDepth, Cond.selects RX2 yX2_meanDepth yX2_meanDepth, Cond.initialized RX2, Cond.code yX2_meanDepth cX2_meanDepth 4 (some .double), Cond.methodLink RX2 20 yX2_treeOf, Cond.instanceMethod yX2_treeOf, Cond.selects RX2 yX2_treeOf yX2_treeOf, Cond.code yX2_treeOf cX2_treeOf 2 (some (.object "SplayOrchard$Tree")), Cond.classLink RX2 125 "java/lang/IndexOutOfBoundsException", Cond.initialized "java/lang/IndexOutOfBoundsException", Cond.fieldLink RX2 11 "SplayOrchard" "rows" "[LSplayOrchard$Tree;", Cond.methodLink RX2 93 yX1_count, Cond.instanceMethod yX1_count, Cond.selects RX1 yX1_count yX1_count, Cond.initialized RX1, Cond.code yX1_count cX1_count 1 (some .int), Cond.fieldLink RX1 7 "SplayOrchard$Tree" "top" "LSplayOrchard$Apple;", Cond.methodLink RX1 63 yX0_countUnder, Cond.instanceMethod yX0_countUnder, Cond.selects RX0 yX0_countUnder yX0_countUnder, Cond.initialized RX0, Cond.code yX0_countUnder cX0_countUnder 4 (some .int)]
def wsL_meanDepth_r2 : List Cond := [Cond.methodLink RX0 41 yX0_greatestUnder, Cond.instanceMethod yX0_greatestUnder, Cond.selects RX0 yX0_greatestUnder yX0_greatestUnder, Cond.code yX0_greatestUnder cX0_greatestUnder 2 (some (.object "SplayOrchard$Apple")), Cond.fieldLink RX0 23 "SplayOrchard$Apple" "right" "LSplayOrchard$Apple;", Cond.methodLink RX0 37 yX0_leastUnder, Cond.instanceMethod yX0_leastUnder, Cond.selects RX0 yX0_leastUnder yX0_leastUnder, Cond.code yX0_leastUnder cX0_leastUnder 2 (some (.object "SplayOrchard$Apple")), Cond.fieldLink RX0 17 "SplayOrchard$Apple" "left" "LSplayOrchard$Apple;", Cond.methodLink RX0 44 yX0_next, Cond.instanceMethod yX0_next, Cond.selects RX0 yX0_next yX0_next, Cond.code yX0_next cX0_next 2 (some (.object "SplayOrchard$Apple")), Cond.fieldLink RX0 20 "SplayOrchard$Apple" "up" "LSplayOrchard$Apple;", Cond.methodLink RX2 112 yX1_depthSum, Cond.instanceMethod yX1_depthSum, Cond.selects RX1 yX1_depthSum yX1_depthSum, Cond.code yX1_depthSum cX1_depthSum 3 (some .int), Cond.methodLink RX1 57 yX1_first, Cond.instanceMethod yX1_first, Cond.selects RX1 yX1_first yX1_first, Cond.code yX1_first cX1_first 1 (some (.object "SplayOrchard$Apple")), Cond.methodLink RX1 18 yX0_leastUnder]
def wsL_meanDepth_r3 : List Cond := [Cond.methodLink RX1 46 yX0_depth, Cond.instanceMethod yX0_depth, Cond.selects RX0 yX0_depth yX0_depth, Cond.code yX0_depth cX0_depth 3 (some .int), Cond.methodLink RX1 60 yX0_next]
def wsL_meanDepth : List Cond := .codeWith yL_meanDepth cL_meanDepth 4 (some .int) [(0, 8, 11, 13)] :: ((wsL_meanDepth_r1 ++ (wsL_meanDepth_r2 ++ wsL_meanDepth_r3)) ++ wsX20 ++ wsX10 ++ wsX00 ++ (vx_atS RX2 129 "java/lang/IndexOutOfBoundsException" ["java/lang/RuntimeException", "java/lang/Exception"]).filter goodWord)
def wsL_law0_r1 : List Cond := [Cond.classLink RL 8 RX2, Cond.instantiable RX2 3, Cond.initialized RX2, Cond.classLink RL 111 RX3, Cond.instantiable RX3 6, Cond.initialized RX3, Cond.arrayClass .long, Cond.arrayClass .double, Cond.methodLink RL 110 yX2_init, Cond.instanceMethod yX2_init, Cond.code yX2_init cX2_init 2 none, Cond.methodLink RX2 1 objectInit, Cond.instanceMethod objectInit, Cond.code objectInit ⟨#[0xb1]⟩ 1 none, Cond.classLink RX2 9 RX1, Cond.fieldLink RX2 11 "SplayOrchard" "rows" "[LSplayOrchard$Tree;", Cond.instantiable RX1 1, Cond.initialized RX1, Cond.fieldLink RX2 16 "SplayOrchard" "trial" "LSplayOrchard$Tree;", Cond.instanceMethod yX1_init, Cond.code yX1_init cX1_init 1 none, Cond.methodLink RX1 1 objectInit, Cond.methodLink RL 113 yX3_init, Cond.instanceMethod yX3_init]
def wsL_law0_r2 : List Cond := [Cond.code yX3_init cX3_init 2 none, Cond.methodLink RX3 3 objectInit, Cond.arrayClass .int, Cond.fieldLink RX3 9 "SplayOrchardModel" "now" "[I", Cond.fieldLink RX3 13 "SplayOrchardModel" "kept" "[I", Cond.methodLink RL 114 yL_plant, Cond.static yL_plant, Cond.initialized RL, Cond.codeWith yL_plant cL_plant 5 (some .int) [(0, 10, 13, 13), (0, 10, 17, 15), (0, 10, 21, 17)], Cond.classLink RL 13 "java/lang/IndexOutOfBoundsException", Cond.classLink RL 15 "java/lang/IllegalArgumentException", Cond.classLink RL 17 "java/lang/IllegalStateException", Cond.methodLink RL 7 yX2_plant, Cond.instanceMethod yX2_plant, Cond.selects RX2 yX2_plant yX2_plant, Cond.code yX2_plant cX2_plant 5 (some .int), Cond.classLink RX2 32 "java/lang/IllegalStateException", Cond.initialized "java/lang/IllegalStateException", Cond.classLink RX2 45 RX0, Cond.instantiable RX0 6, Cond.initialized RX0, Cond.methodLink RX2 20 yX2_treeOf, Cond.instanceMethod yX2_treeOf, Cond.selects RX2 yX2_treeOf yX2_treeOf]
def wsL_law0_r3 : List Cond := [Cond.code yX2_treeOf cX2_treeOf 2 (some (.object "SplayOrchard$Tree")), Cond.classLink RX2 125 "java/lang/IndexOutOfBoundsException", Cond.initialized "java/lang/IndexOutOfBoundsException", Cond.methodLink RX2 24 yX2_checkSize, Cond.static yX2_checkSize, Cond.code yX2_checkSize cX2_checkSize 1 none, Cond.classLink RX2 208 "java/lang/IllegalArgumentException", Cond.initialized "java/lang/IllegalArgumentException", Cond.methodLink RX2 28 yX2_apples, Cond.instanceMethod yX2_apples, Cond.selects RX2 yX2_apples yX2_apples, Cond.code yX2_apples cX2_apples 6 (some .int), Cond.methodLink RX2 93 yX1_count, Cond.instanceMethod yX1_count, Cond.selects RX1 yX1_count yX1_count, Cond.code yX1_count cX1_count 1 (some .int), Cond.fieldLink RX1 7 "SplayOrchard$Tree" "top" "LSplayOrchard$Apple;", Cond.methodLink RX1 63 yX0_countUnder, Cond.instanceMethod yX0_countUnder, Cond.selects RX0 yX0_countUnder yX0_countUnder, Cond.code yX0_countUnder cX0_countUnder 4 (some .int), Cond.methodLink RX0 41 yX0_greatestUnder, Cond.instanceMethod yX0_greatestUnder, Cond.selects RX0 yX0_greatestUnder yX0_greatestUnder]
def wsL_law0_r4 : List Cond := [Cond.code yX0_greatestUnder cX0_greatestUnder 2 (some (.object "SplayOrchard$Apple")), Cond.fieldLink RX0 23 "SplayOrchard$Apple" "right" "LSplayOrchard$Apple;", Cond.methodLink RX0 37 yX0_leastUnder, Cond.instanceMethod yX0_leastUnder, Cond.selects RX0 yX0_leastUnder yX0_leastUnder, Cond.code yX0_leastUnder cX0_leastUnder 2 (some (.object "SplayOrchard$Apple")), Cond.fieldLink RX0 17 "SplayOrchard$Apple" "left" "LSplayOrchard$Apple;", Cond.methodLink RX0 44 yX0_next, Cond.instanceMethod yX0_next, Cond.selects RX0 yX0_next yX0_next, Cond.code yX0_next cX0_next 2 (some (.object "SplayOrchard$Apple")), Cond.fieldLink RX0 20 "SplayOrchard$Apple" "up" "LSplayOrchard$Apple;", Cond.methodLink RX2 39 yX1_find, Cond.instanceMethod yX1_find, Cond.selects RX1 yX1_find yX1_find, Cond.code yX1_find cX1_find 3 (some (.object "SplayOrchard$Apple")), Cond.fieldLink RX1 32 "SplayOrchard$Apple" "size" "I", Cond.methodLink RX1 29 yX1_nearest, Cond.instanceMethod yX1_nearest, Cond.selects RX1 yX1_nearest yX1_nearest, Cond.code yX1_nearest cX1_nearest 4 (some (.object "SplayOrchard$Apple")), Cond.methodLink RX1 25 yX0_towards, Cond.instanceMethod yX0_towards, Cond.selects RX0 yX0_towards yX0_towards]
def wsL_law0_r5 : List Cond := [Cond.code yX0_towards cX0_towards 2 (some (.object "SplayOrchard$Apple")), Cond.fieldLink RX0 7 "SplayOrchard$Apple" "size" "I", Cond.methodLink RX2 47 yX0_init, Cond.instanceMethod yX0_init, Cond.code yX0_init cX0_init 3 none, Cond.methodLink RX0 1 objectInit, Cond.fieldLink RX0 13 "SplayOrchard$Apple" "standIn" "LSplayOrchard$Apple;", Cond.methodLink RX2 50 yX1_hang, Cond.instanceMethod yX1_hang, Cond.selects RX1 yX1_hang yX1_hang, Cond.code yX1_hang cX1_hang 3 none, Cond.methodLink RX1 36 yX1_setTop, Cond.instanceMethod yX1_setTop, Cond.selects RX1 yX1_setTop yX1_setTop, Cond.code yX1_setTop cX1_setTop 2 none, Cond.fieldLink RX1 13 "SplayOrchard$Apple" "up" "LSplayOrchard$Apple;", Cond.methodLink RX1 40 yX0_hangLeft, Cond.instanceMethod yX0_hangLeft, Cond.selects RX0 yX0_hangLeft yX0_hangLeft, Cond.code yX0_hangLeft cX0_hangLeft 2 none, Cond.methodLink RX1 43 yX0_hangRight, Cond.instanceMethod yX0_hangRight, Cond.selects RX0 yX0_hangRight yX0_hangRight, Cond.code yX0_hangRight cX0_hangRight 2 none]
def wsL_law0_r6 : List Cond := [Cond.methodLink RX2 54 yX2_bringUp, Cond.instanceMethod yX2_bringUp, Cond.selects RX2 yX2_bringUp yX2_bringUp, Cond.code yX2_bringUp cX2_bringUp 4 (some .int), Cond.fieldLink RX2 102 "SplayOrchard" "turned" "I", Cond.methodLink RX2 215 yX1_bringUp, Cond.instanceMethod yX1_bringUp, Cond.selects RX1 yX1_bringUp yX1_bringUp, Cond.code yX1_bringUp cX1_bringUp 6 (some .int), Cond.methodLink RX1 46 yX0_depth, Cond.instanceMethod yX0_depth, Cond.selects RX0 yX0_depth yX0_depth, Cond.code yX0_depth cX0_depth 3 (some .int), Cond.methodLink RX1 50 yX0_isOnTheLeft, Cond.instanceMethod yX0_isOnTheLeft, Cond.selects RX0 yX0_isOnTheLeft yX0_isOnTheLeft, Cond.code yX0_isOnTheLeft cX0_isOnTheLeft 1 (some .boolean), Cond.methodLink RX1 54 yX0_turn, Cond.instanceMethod yX0_turn, Cond.selects RX0 yX0_turn yX0_turn, Cond.code yX0_turn cX0_turn 4 none, Cond.methodLink RX0 26 yX0_isOnTheLeft, Cond.methodLink RX0 30 yX0_hangLeft, Cond.methodLink RX0 34 yX0_hangRight]
def wsL_law0_r7 : List Cond := [Cond.methodLink RL 119 yX3_plant, Cond.instanceMethod yX3_plant, Cond.selects RX3 yX3_plant yX3_plant, Cond.code yX3_plant cX3_plant 3 (some .int), Cond.fieldLink RX3 16 "SplayOrchardModel" "thrown" "I", Cond.fieldLink RX3 78 "SplayOrchardModel" "many" "I", Cond.methodLink RX3 88 yX3_isRow, Cond.static yX3_isRow, Cond.code yX3_isRow cX3_isRow 1 (some .boolean), Cond.methodLink RX3 92 yX3_no, Cond.instanceMethod yX3_no, Cond.selects RX3 yX3_no yX3_no, Cond.code yX3_no cX3_no 2 (some .int), Cond.methodLink RX3 95 yX3_isSize, Cond.static yX3_isSize, Cond.code yX3_isSize cX3_isSize 1 (some .boolean), Cond.methodLink RX3 98 yX3_find, Cond.instanceMethod yX3_find, Cond.selects RX3 yX3_find yX3_find, Cond.code yX3_find cX3_find 4 (some .int), Cond.methodLink RX3 101 yX3_planted, Cond.instanceMethod yX3_planted, Cond.selects RX3 yX3_planted yX3_planted, Cond.code yX3_planted cX3_planted 7 (some .int)]
def wsL_law0_r8 : List Cond := [Cond.methodLink RX3 74 yX3_free, Cond.instanceMethod yX3_free, Cond.selects RX3 yX3_free yX3_free, Cond.code yX3_free cX3_free 2 (some .int), Cond.methodLink RX3 39 yX3_hang, Cond.instanceMethod yX3_hang, Cond.selects RX3 yX3_hang yX3_hang, Cond.code yX3_hang cX3_hang 4 none, Cond.methodLink RX3 81 yX3_deep, Cond.instanceMethod yX3_deep, Cond.selects RX3 yX3_deep yX3_deep, Cond.code yX3_deep cX3_deep 4 (some .int), Cond.methodLink RX3 84 yX3_raiseIn, Cond.instanceMethod yX3_raiseIn, Cond.selects RX3 yX3_raiseIn yX3_raiseIn, Cond.code yX3_raiseIn cX3_raiseIn 3 none, Cond.methodLink RX3 47 yX3_raise, Cond.instanceMethod yX3_raise, Cond.selects RX3 yX3_raise yX3_raise, Cond.code yX3_raise cX3_raise 3 none, Cond.methodLink RX3 32 yX3_sideOf, Cond.instanceMethod yX3_sideOf, Cond.selects RX3 yX3_sideOf yX3_sideOf, Cond.code yX3_sideOf cX3_sideOf 2 (some .int)]
def wsL_law0_r9 : List Cond := [Cond.methodLink RX3 43 yX3_turn, Cond.instanceMethod yX3_turn, Cond.selects RX3 yX3_turn yX3_turn, Cond.code yX3_turn cX3_turn 6 none, Cond.fieldLink RX3 26 "SplayOrchardModel" "turned" "I", Cond.methodLink RX3 36 yX3_across, Cond.static yX3_across, Cond.code yX3_across cX3_across 1 (some .int), Cond.methodLink RL 120 yX3_thrown, Cond.instanceMethod yX3_thrown, Cond.selects RX3 yX3_thrown yX3_thrown, Cond.code yX3_thrown cX3_thrown 1 (some .int), Cond.methodLink RL 124 yL_eat, Cond.static yL_eat, Cond.codeWith yL_eat cL_eat 5 (some .int) [(0, 10, 13, 13), (0, 10, 17, 17)], Cond.methodLink RL 19 yX2_eat, Cond.instanceMethod yX2_eat, Cond.selects RX2 yX2_eat yX2_eat, Cond.code yX2_eat cX2_eat 5 (some .int), Cond.fieldLink RX2 62 "SplayOrchard$Apple" "bites" "I", Cond.methodLink RX2 58 yX2_appleOf, Cond.static yX2_appleOf, Cond.code yX2_appleOf cX2_appleOf 3 (some (.object "SplayOrchard$Apple")), Cond.methodLink RL 126 yX3_eat]
def wsL_law0_r10 : List Cond := [Cond.instanceMethod yX3_eat, Cond.selects RX3 yX3_eat yX3_eat, Cond.code yX3_eat cX3_eat 4 (some .int), Cond.methodLink RX3 104 yX3_bitten, Cond.instanceMethod yX3_bitten, Cond.selects RX3 yX3_bitten yX3_bitten, Cond.code yX3_bitten cX3_bitten 4 (some .int), Cond.methodLink RL 127 yL_pick, Cond.static yL_pick, Cond.codeWith yL_pick cL_pick 5 (some .int) [(0, 10, 13, 13), (0, 10, 17, 17)], Cond.methodLink RL 22 yX2_pick, Cond.instanceMethod yX2_pick, Cond.selects RX2 yX2_pick yX2_pick, Cond.code yX2_pick cX2_pick 5 (some .int), Cond.fieldLink RX2 66 "SplayOrchard$Apple" "left" "LSplayOrchard$Apple;", Cond.fieldLink RX2 73 "SplayOrchard$Apple" "right" "LSplayOrchard$Apple;", Cond.methodLink RX2 70 yX1_setTop, Cond.methodLink RX2 76 yX2_append, Cond.instanceMethod yX2_append, Cond.selects RX2 yX2_append yX2_append, Cond.code yX2_append cX2_append 4 none, Cond.methodLink RX2 119 yX1_last, Cond.instanceMethod yX1_last, Cond.selects RX1 yX1_last yX1_last]
def wsL_law0_r11 : List Cond := [Cond.code yX1_last cX1_last 1 (some (.object "SplayOrchard$Apple")), Cond.methodLink RX1 22 yX0_greatestUnder, Cond.methodLink RX2 90 yX0_hangRight, Cond.methodLink RL 129 yX3_pick, Cond.instanceMethod yX3_pick, Cond.selects RX3 yX3_pick yX3_pick, Cond.code yX3_pick cX3_pick 4 (some .int), Cond.methodLink RX3 116 yX3_picked, Cond.instanceMethod yX3_picked, Cond.selects RX3 yX3_picked yX3_picked, Cond.code yX3_picked cX3_picked 6 (some .int), Cond.methodLink RX3 110 yX3_lowered, Cond.instanceMethod yX3_lowered, Cond.selects RX3 yX3_lowered yX3_lowered, Cond.code yX3_lowered cX3_lowered 2 (some .int), Cond.methodLink RX3 113 yX3_together, Cond.instanceMethod yX3_together, Cond.selects RX3 yX3_together yX3_together, Cond.code yX3_together cX3_together 4 (some .int), Cond.methodLink RX3 107 yX3_end, Cond.instanceMethod yX3_end, Cond.selects RX3 yX3_end yX3_end, Cond.code yX3_end cX3_end 4 (some .int), Cond.methodLink RL 130 yL_split]
def wsL_law0_r12 : List Cond := [Cond.static yL_split, Cond.codeWith yL_split cL_split 6 (some .int) [(0, 12, 15, 13), (0, 12, 19, 15), (0, 12, 23, 17)], Cond.methodLink RL 25 yX2_split, Cond.instanceMethod yX2_split, Cond.selects RX2 yX2_split yX2_split, Cond.code yX2_split cX2_split 7 (some .int), Cond.fieldLink RX2 82 "SplayOrchard$Tree" "top" "LSplayOrchard$Apple;", Cond.methodLink RX2 87 yX1_greatestBelow, Cond.instanceMethod yX1_greatestBelow, Cond.selects RX1 yX1_greatestBelow yX1_greatestBelow, Cond.code yX1_greatestBelow cX1_greatestBelow 4 (some (.object "SplayOrchard$Apple")), Cond.methodLink RX1 57 yX1_first, Cond.instanceMethod yX1_first, Cond.selects RX1 yX1_first yX1_first, Cond.code yX1_first cX1_first 1 (some (.object "SplayOrchard$Apple")), Cond.methodLink RX1 18 yX0_leastUnder, Cond.methodLink RX1 60 yX0_next, Cond.methodLink RL 133 yX3_split, Cond.instanceMethod yX3_split, Cond.selects RX3 yX3_split yX3_split, Cond.code yX3_split cX3_split 4 (some .int), Cond.methodLink RX3 119 yX3_parted, Cond.instanceMethod yX3_parted, Cond.selects RX3 yX3_parted yX3_parted]
def wsL_law0_r13 : List Cond := [Cond.code yX3_parted cX3_parted 6 (some .int), Cond.methodLink RX3 68 yX3_under, Cond.instanceMethod yX3_under, Cond.selects RX3 yX3_under yX3_under, Cond.code yX3_under cX3_under 3 (some .int), Cond.methodLink RX3 50 yX3_count, Cond.instanceMethod yX3_count, Cond.selects RX3 yX3_count yX3_count, Cond.code yX3_count cX3_count 2 (some .int), Cond.methodLink RX3 71 yX3_nth, Cond.instanceMethod yX3_nth, Cond.selects RX3 yX3_nth yX3_nth, Cond.code yX3_nth cX3_nth 4 (some .int), Cond.methodLink RL 134 yL_join, Cond.static yL_join, Cond.codeWith yL_join cL_join 5 (some .int) [(0, 10, 13, 13), (0, 10, 17, 17)], Cond.methodLink RL 29 yX2_join, Cond.instanceMethod yX2_join, Cond.selects RX2 yX2_join yX2_join, Cond.code yX2_join cX2_join 5 (some .int), Cond.methodLink RX2 96 yX2_mayJoin, Cond.static yX2_mayJoin, Cond.code yX2_mayJoin cX2_mayJoin 4 (some .boolean), Cond.fieldLink RX2 130 "SplayOrchard$Apple" "size" "I"]
def wsL_law0_r14 : List Cond := [Cond.methodLink RX2 115 yX1_first, Cond.methodLink RL 136 yX3_join, Cond.instanceMethod yX3_join, Cond.selects RX3 yX3_join yX3_join, Cond.code yX3_join cX3_join 3 (some .int), Cond.methodLink RX3 123 yX3_fits, Cond.instanceMethod yX3_fits, Cond.selects RX3 yX3_fits yX3_fits, Cond.code yX3_fits cX3_fits 3 (some .boolean), Cond.methodLink RL 137 yX2_apples, Cond.methodLink RL 140 yX3_apples, Cond.instanceMethod yX3_apples, Cond.selects RX3 yX3_apples yX3_apples, Cond.code yX3_apples cX3_apples 1 (some .int), Cond.methodLink RX3 127 yX3_ok, Cond.instanceMethod yX3_ok, Cond.selects RX3 yX3_ok yX3_ok, Cond.code yX3_ok cX3_ok 2 (some .int), Cond.methodLink RL 141 yX2_turnings, Cond.instanceMethod yX2_turnings, Cond.selects RX2 yX2_turnings yX2_turnings, Cond.code yX2_turnings cX2_turnings 1 (some .int), Cond.methodLink RL 144 yX3_turnings, Cond.instanceMethod yX3_turnings]
def wsL_law0_r15 : List Cond := [Cond.selects RX3 yX3_turnings yX3_turnings, Cond.code yX3_turnings cX3_turnings 1 (some .int), Cond.methodLink RL 145 yL_sizeOf, Cond.static yL_sizeOf, Cond.codeWith yL_sizeOf cL_sizeOf 4 (some .int) [(0, 9, 12, 13)], Cond.methodLink RL 32 yX2_sizeOf, Cond.instanceMethod yX2_sizeOf, Cond.selects RX2 yX2_sizeOf yX2_sizeOf, Cond.code yX2_sizeOf cX2_sizeOf 2 (some .int), Cond.methodLink RL 148 yX3_sizeOf, Cond.instanceMethod yX3_sizeOf, Cond.selects RX3 yX3_sizeOf yX3_sizeOf, Cond.code yX3_sizeOf cX3_sizeOf 2 (some .int), Cond.methodLink RL 149 yL_top, Cond.static yL_top, Cond.codeWith yL_top cL_top 4 (some .int) [(0, 9, 12, 13)], Cond.methodLink RL 36 yX2_top, Cond.instanceMethod yX2_top, Cond.selects RX2 yX2_top yX2_top, Cond.code yX2_top cX2_top 2 (some .int), Cond.methodLink RX2 105 yX2_sizeOrNone, Cond.static yX2_sizeOrNone, Cond.code yX2_sizeOrNone cX2_sizeOrNone 1 (some .int), Cond.methodLink RL 151 yX3_top]
def wsL_law0_r16 : List Cond := [Cond.instanceMethod yX3_top, Cond.selects RX3 yX3_top yX3_top, Cond.code yX3_top cX3_top 2 (some .int), Cond.methodLink RX3 130 yX3_sizeAt, Cond.instanceMethod yX3_sizeAt, Cond.selects RX3 yX3_sizeAt yX3_sizeAt, Cond.code yX3_sizeAt cX3_sizeAt 2 (some .int), Cond.methodLink RL 152 yL_height, Cond.static yL_height, Cond.codeWith yL_height cL_height 4 (some .int) [(0, 9, 12, 13)], Cond.methodLink RL 39 yX2_height, Cond.instanceMethod yX2_height, Cond.selects RX2 yX2_height yX2_height, Cond.code yX2_height cX2_height 2 (some .int), Cond.methodLink RX2 109 yX1_levels, Cond.instanceMethod yX1_levels, Cond.selects RX1 yX1_levels yX1_levels, Cond.code yX1_levels cX1_levels 3 (some .int), Cond.methodLink RX1 66 Lib.Math.max.name, Cond.static Lib.Math.max.name, Cond.initialized "java/lang/Math", Cond.code Lib.Math.max.name Lib.Math.max.code 2 (some .int), Cond.methodLink RL 154 yX3_height, Cond.instanceMethod yX3_height]
def wsL_law0_r17 : List Cond := [Cond.selects RX3 yX3_height yX3_height, Cond.code yX3_height cX3_height 2 (some .int), Cond.methodLink RX3 53 yX3_high, Cond.instanceMethod yX3_high, Cond.selects RX3 yX3_high yX3_high, Cond.code yX3_high cX3_high 2 (some .int), Cond.methodLink RX3 56 Lib.Math.max.name, Cond.methodLink RL 155 yL_leastHeight, Cond.static yL_leastHeight, Cond.codeWith yL_leastHeight cL_leastHeight 4 (some .int) [(0, 9, 12, 13)], Cond.methodLink RL 42 yX2_leastHeight, Cond.instanceMethod yX2_leastHeight, Cond.selects RX2 yX2_leastHeight yX2_leastHeight, Cond.code yX2_leastHeight cX2_leastHeight 5 (some .int), Cond.methodLink RL 157 yX3_leastHeight, Cond.instanceMethod yX3_leastHeight, Cond.selects RX3 yX3_leastHeight yX3_leastHeight, Cond.code yX3_leastHeight cX3_leastHeight 2 (some .int), Cond.methodLink RX3 133 yX3_lowest, Cond.instanceMethod yX3_lowest, Cond.selects RX3 yX3_lowest yX3_lowest, Cond.code yX3_lowest cX3_lowest 4 (some .int), Cond.methodLink RL 158 yL_depths, Cond.static yL_depths]
def wsL_law0_r18 : List Cond := [Cond.codeWith yL_depths cL_depths 4 (some .int) [(0, 9, 12, 13)], Cond.methodLink RL 45 yX2_depths, Cond.instanceMethod yX2_depths, Cond.selects RX2 yX2_depths yX2_depths, Cond.code yX2_depths cX2_depths 2 (some .int), Cond.methodLink RX2 112 yX1_depthSum, Cond.instanceMethod yX1_depthSum, Cond.selects RX1 yX1_depthSum yX1_depthSum, Cond.code yX1_depthSum cX1_depthSum 3 (some .int), Cond.methodLink RL 160 yX3_depths, Cond.instanceMethod yX3_depths, Cond.selects RX3 yX3_depths yX3_depths, Cond.code yX3_depths cX3_depths 2 (some .int), Cond.methodLink RX3 62 yX3_depthsOf, Cond.instanceMethod yX3_depthsOf, Cond.selects RX3 yX3_depthsOf yX3_depthsOf, Cond.code yX3_depthsOf cX3_depthsOf 3 (some .int), Cond.methodLink RL 161 yL_smallest, Cond.static yL_smallest, Cond.codeWith yL_smallest cL_smallest 4 (some .int) [(0, 9, 12, 13)], Cond.methodLink RL 48 yX2_smallest, Cond.instanceMethod yX2_smallest, Cond.selects RX2 yX2_smallest yX2_smallest, Cond.code yX2_smallest cX2_smallest 2 (some .int)]
def wsL_law0_r19 : List Cond := [Cond.methodLink RL 163 yX3_smallest, Cond.instanceMethod yX3_smallest, Cond.selects RX3 yX3_smallest yX3_smallest, Cond.code yX3_smallest cX3_smallest 2 (some .int), Cond.methodLink RL 164 yL_greatest, Cond.static yL_greatest, Cond.codeWith yL_greatest cL_greatest 4 (some .int) [(0, 9, 12, 13)], Cond.methodLink RL 51 yX2_greatest, Cond.instanceMethod yX2_greatest, Cond.selects RX2 yX2_greatest yX2_greatest, Cond.code yX2_greatest cX2_greatest 2 (some .int), Cond.methodLink RL 166 yX3_greatest, Cond.instanceMethod yX3_greatest, Cond.selects RX3 yX3_greatest yX3_greatest, Cond.code yX3_greatest cX3_greatest 2 (some .int), Cond.methodLink RL 167 yL_inOrder, Cond.static yL_inOrder, Cond.codeWith yL_inOrder cL_inOrder 5 (some .int) [(0, 10, 13, 13)], Cond.methodLink RL 54 yX2_inOrder, Cond.instanceMethod yX2_inOrder, Cond.selects RX2 yX2_inOrder yX2_inOrder, Cond.code yX2_inOrder cX2_inOrder 4 (some .int), Cond.methodLink RX2 122 yX1_at, Cond.instanceMethod yX1_at]
def wsL_law0_r20 : List Cond := [Cond.selects RX1 yX1_at yX1_at, Cond.code yX1_at cX1_at 4 (some (.object "SplayOrchard$Apple")), Cond.methodLink RL 169 yX3_inOrder, Cond.instanceMethod yX3_inOrder, Cond.selects RX3 yX3_inOrder yX3_inOrder, Cond.code yX3_inOrder cX3_inOrder 3 (some .int), Cond.methodLink RL 170 yL_leaves, Cond.static yL_leaves, Cond.codeWith yL_leaves cL_leaves 4 (some .int) [(0, 9, 12, 13)], Cond.methodLink RL 57 yX2_leaves, Cond.instanceMethod yX2_leaves, Cond.selects RX2 yX2_leaves yX2_leaves, Cond.code yX2_leaves cX2_leaves 2 (some .int), Cond.methodLink RX2 133 yX1_leafCount, Cond.instanceMethod yX1_leafCount, Cond.selects RX1 yX1_leafCount yX1_leafCount, Cond.code yX1_leafCount cX1_leafCount 3 (some .int), Cond.fieldLink RX1 72 "SplayOrchard$Apple" "left" "LSplayOrchard$Apple;", Cond.fieldLink RX1 75 "SplayOrchard$Apple" "right" "LSplayOrchard$Apple;", Cond.methodLink RL 172 yX3_leaves, Cond.instanceMethod yX3_leaves, Cond.selects RX3 yX3_leaves yX3_leaves, Cond.code yX3_leaves cX3_leaves 2 (some .int), Cond.methodLink RX3 65 yX3_ends]
def wsL_law0_r21 : List Cond := [Cond.instanceMethod yX3_ends, Cond.selects RX3 yX3_ends yX3_ends, Cond.code yX3_ends cX3_ends 2 (some .int), Cond.methodLink RL 173 yL_has, Cond.static yL_has, Cond.codeWith yL_has cL_has 5 (some .int) [(0, 17, 20, 13)], Cond.methodLink RL 60 yX2_has, Cond.instanceMethod yX2_has, Cond.selects RX2 yX2_has yX2_has, Cond.code yX2_has cX2_has 3 (some .boolean), Cond.methodLink RL 175 yX3_has, Cond.instanceMethod yX3_has, Cond.selects RX3 yX3_has yX3_has, Cond.code yX3_has cX3_has 3 (some .boolean), Cond.methodLink RX3 136 yX3_isNot, Cond.instanceMethod yX3_isNot, Cond.selects RX3 yX3_isNot yX3_isNot, Cond.code yX3_isNot cX3_isNot 2 (some .boolean), Cond.methodLink RL 176 yL_smaller, Cond.static yL_smaller, Cond.codeWith yL_smaller cL_smaller 5 (some .int) [(0, 10, 13, 13)], Cond.methodLink RL 64 yX2_smaller, Cond.instanceMethod yX2_smaller, Cond.selects RX2 yX2_smaller yX2_smaller]
def wsL_law0_r22 : List Cond := [Cond.code yX2_smaller cX2_smaller 3 (some .int), Cond.methodLink RX2 136 yX1_countBelow, Cond.instanceMethod yX1_countBelow, Cond.selects RX1 yX1_countBelow yX1_countBelow, Cond.code yX1_countBelow cX1_countBelow 4 (some .int), Cond.methodLink RL 178 yX3_smaller, Cond.instanceMethod yX3_smaller, Cond.selects RX3 yX3_smaller yX3_smaller, Cond.code yX3_smaller cX3_smaller 3 (some .int), Cond.methodLink RL 179 yL_depthOf, Cond.static yL_depthOf, Cond.codeWith yL_depthOf cL_depthOf 5 (some .int) [(0, 10, 13, 13), (0, 10, 17, 17)], Cond.methodLink RL 67 yX2_depthOf, Cond.instanceMethod yX2_depthOf, Cond.selects RX2 yX2_depthOf yX2_depthOf, Cond.code yX2_depthOf cX2_depthOf 3 (some .int), Cond.methodLink RX2 140 yX0_depth, Cond.methodLink RL 181 yX3_depthOf, Cond.instanceMethod yX3_depthOf, Cond.selects RX3 yX3_depthOf yX3_depthOf, Cond.code yX3_depthOf cX3_depthOf 4 (some .int), Cond.methodLink RX3 139 yX3_asked, Cond.instanceMethod yX3_asked, Cond.selects RX3 yX3_asked yX3_asked]
def wsL_law0_r23 : List Cond := [Cond.code yX3_asked cX3_asked 4 (some .int), Cond.methodLink RL 182 yL_above, Cond.static yL_above, Cond.codeWith yL_above cL_above 5 (some .int) [(0, 10, 13, 13), (0, 10, 17, 17)], Cond.methodLink RL 70 yX2_above, Cond.instanceMethod yX2_above, Cond.selects RX2 yX2_above yX2_above, Cond.code yX2_above cX2_above 3 (some .int), Cond.fieldLink RX2 143 "SplayOrchard$Apple" "up" "LSplayOrchard$Apple;", Cond.methodLink RL 184 yX3_above, Cond.instanceMethod yX3_above, Cond.selects RX3 yX3_above yX3_above, Cond.code yX3_above cX3_above 4 (some .int), Cond.methodLink RL 185 yL_leftOf, Cond.static yL_leftOf, Cond.codeWith yL_leftOf cL_leftOf 5 (some .int) [(0, 10, 13, 13), (0, 10, 17, 17)], Cond.methodLink RL 73 yX2_leftOf, Cond.instanceMethod yX2_leftOf, Cond.selects RX2 yX2_leftOf yX2_leftOf, Cond.code yX2_leftOf cX2_leftOf 3 (some .int), Cond.methodLink RL 187 yX3_leftOf, Cond.instanceMethod yX3_leftOf, Cond.selects RX3 yX3_leftOf yX3_leftOf, Cond.code yX3_leftOf cX3_leftOf 4 (some .int)]
def wsL_law0_r24 : List Cond := [Cond.methodLink RL 188 yL_rightOf, Cond.static yL_rightOf, Cond.codeWith yL_rightOf cL_rightOf 5 (some .int) [(0, 10, 13, 13), (0, 10, 17, 17)], Cond.methodLink RL 76 yX2_rightOf, Cond.instanceMethod yX2_rightOf, Cond.selects RX2 yX2_rightOf yX2_rightOf, Cond.code yX2_rightOf cX2_rightOf 3 (some .int), Cond.methodLink RL 190 yX3_rightOf, Cond.instanceMethod yX3_rightOf, Cond.selects RX3 yX3_rightOf yX3_rightOf, Cond.code yX3_rightOf cX3_rightOf 4 (some .int), Cond.methodLink RL 191 yL_below, Cond.static yL_below, Cond.codeWith yL_below cL_below 5 (some .int) [(0, 10, 13, 13), (0, 10, 17, 17)], Cond.methodLink RL 79 yX2_below, Cond.instanceMethod yX2_below, Cond.selects RX2 yX2_below yX2_below, Cond.code yX2_below cX2_below 3 (some .int), Cond.methodLink RX2 146 yX0_countUnder, Cond.methodLink RL 193 yX3_below, Cond.instanceMethod yX3_below, Cond.selects RX3 yX3_below yX3_below, Cond.code yX3_below cX3_below 4 (some .int), Cond.methodLink RL 194 yL_eaten]
def wsL_law0_r25 : List Cond := [Cond.static yL_eaten, Cond.codeWith yL_eaten cL_eaten 5 (some .int) [(0, 10, 13, 13), (0, 10, 17, 17)], Cond.methodLink RL 82 yX2_eaten, Cond.instanceMethod yX2_eaten, Cond.selects RX2 yX2_eaten yX2_eaten, Cond.code yX2_eaten cX2_eaten 3 (some .int), Cond.methodLink RL 196 yX3_eaten, Cond.instanceMethod yX3_eaten, Cond.selects RX3 yX3_eaten yX3_eaten, Cond.code yX3_eaten cX3_eaten 4 (some .int), Cond.methodLink RL 197 yL_favourite, Cond.static yL_favourite, Cond.codeWith yL_favourite cL_favourite 4 (some .int) [(0, 9, 12, 13)], Cond.methodLink RL 85 yX2_favourite, Cond.instanceMethod yX2_favourite, Cond.selects RX2 yX2_favourite yX2_favourite, Cond.code yX2_favourite cX2_favourite 2 (some .int), Cond.methodLink RX2 149 yX1_mostBitten, Cond.instanceMethod yX1_mostBitten, Cond.selects RX1 yX1_mostBitten yX1_mostBitten, Cond.code yX1_mostBitten cX1_mostBitten 3 (some (.object "SplayOrchard$Apple")), Cond.fieldLink RX1 78 "SplayOrchard$Apple" "bites" "I", Cond.methodLink RL 199 yX3_favourite, Cond.instanceMethod yX3_favourite]
def wsL_law0_r26 : List Cond := [Cond.selects RX3 yX3_favourite yX3_favourite, Cond.code yX3_favourite cX3_favourite 2 (some .int), Cond.methodLink RX3 142 yX3_liked, Cond.instanceMethod yX3_liked, Cond.selects RX3 yX3_liked yX3_liked, Cond.code yX3_liked cX3_liked 5 (some .int), Cond.methodLink RL 200 yL_meet, Cond.static yL_meet, Cond.codeWith yL_meet cL_meet 6 (some .int) [(0, 12, 15, 13), (0, 12, 19, 17)], Cond.methodLink RL 88 yX2_meet, Cond.instanceMethod yX2_meet, Cond.selects RX2 yX2_meet yX2_meet, Cond.code yX2_meet cX2_meet 7 (some .int), Cond.methodLink RX2 152 yX1_meeting, Cond.instanceMethod yX1_meeting, Cond.selects RX1 yX1_meeting yX1_meeting, Cond.code yX1_meeting cX1_meeting 6 (some (.object "SplayOrchard$Apple")), Cond.methodLink RX1 81 Lib.Math.min.name, Cond.static Lib.Math.min.name, Cond.code Lib.Math.min.name Lib.Math.min.code 2 (some .int), Cond.methodLink RL 202 yX3_meet, Cond.instanceMethod yX3_meet, Cond.selects RX3 yX3_meet yX3_meet, Cond.code yX3_meet cX3_meet 6 (some .int)]
def wsL_law0_r27 : List Cond := [Cond.methodLink RL 203 yL_depthBehind, Cond.static yL_depthBehind, Cond.codeWith yL_depthBehind cL_depthBehind 6 (some .int) [(0, 12, 15, 13), (0, 12, 19, 17)], Cond.methodLink RL 91 yX2_depthBehind, Cond.instanceMethod yX2_depthBehind, Cond.selects RX2 yX2_depthBehind yX2_depthBehind, Cond.code yX2_depthBehind cX2_depthBehind 5 (some .int), Cond.methodLink RX2 156 yX2_tryEating, Cond.instanceMethod yX2_tryEating, Cond.selects RX2 yX2_tryEating yX2_tryEating, Cond.code yX2_tryEating cX2_tryEating 4 none, Cond.fieldLink RX2 221 "SplayOrchard$Apple" "standIn" "LSplayOrchard$Apple;", Cond.methodLink RX2 217 yX1_standInFor, Cond.instanceMethod yX1_standInFor, Cond.selects RX1 yX1_standInFor yX1_standInFor, Cond.code yX1_standInFor cX1_standInFor 3 none, Cond.methodLink RX1 84 yX0_linkStandIn, Cond.instanceMethod yX0_linkStandIn, Cond.selects RX0 yX0_linkStandIn yX0_linkStandIn, Cond.code yX0_linkStandIn cX0_linkStandIn 1 none, Cond.methodLink RX0 47 yX0_standInOf, Cond.static yX0_standInOf, Cond.code yX0_standInOf cX0_standInOf 1 (some (.object "SplayOrchard$Apple")), Cond.methodLink RX1 87 yX0_standInOf]
def wsL_law0_r28 : List Cond := [Cond.methodLink RL 205 yX3_depthBehind, Cond.instanceMethod yX3_depthBehind, Cond.selects RX3 yX3_depthBehind yX3_depthBehind, Cond.code yX3_depthBehind cX3_depthBehind 7 (some .int), Cond.methodLink RX3 145 yX3_keep, Cond.instanceMethod yX3_keep, Cond.selects RX3 yX3_keep yX3_keep, Cond.code yX3_keep cX3_keep 1 none, Cond.methodLink RX3 20 arraycopyName, Cond.native arraycopyName, Cond.static arraycopyName, Cond.initialized "java/lang/System", Cond.fieldLink RX3 29 "SplayOrchardModel" "keptTurned" "I", Cond.methodLink RX3 148 yX3_bringBack, Cond.instanceMethod yX3_bringBack, Cond.selects RX3 yX3_bringBack yX3_bringBack, Cond.code yX3_bringBack cX3_bringBack 1 none, Cond.methodLink RL 206 yL_heightBehind, Cond.static yL_heightBehind, Cond.codeWith yL_heightBehind cL_heightBehind 5 (some .int) [(0, 10, 13, 13), (0, 10, 17, 17)], Cond.methodLink RL 94 yX2_heightBehind, Cond.instanceMethod yX2_heightBehind, Cond.selects RX2 yX2_heightBehind yX2_heightBehind, Cond.code yX2_heightBehind cX2_heightBehind 4 (some .int)]
def wsL_law0_r29 : List Cond := [Cond.methodLink RL 208 yX3_heightBehind, Cond.instanceMethod yX3_heightBehind, Cond.selects RX3 yX3_heightBehind yX3_heightBehind, Cond.code yX3_heightBehind cX3_heightBehind 5 (some .int), Cond.methodLink RL 209 yL_bestToEat, Cond.static yL_bestToEat, Cond.codeWith yL_bestToEat cL_bestToEat 4 (some .int) [(0, 9, 12, 13)], Cond.methodLink RL 97 yX2_bestToEat, Cond.instanceMethod yX2_bestToEat, Cond.selects RX2 yX2_bestToEat yX2_bestToEat, Cond.code yX2_bestToEat cX2_bestToEat 7 (some .int), Cond.methodLink RX2 159 yX0_next, Cond.methodLink RL 211 yX3_bestToEat, Cond.instanceMethod yX3_bestToEat, Cond.selects RX3 yX3_bestToEat yX3_bestToEat, Cond.code yX3_bestToEat cX3_bestToEat 2 (some .int), Cond.methodLink RX3 151 yX3_best, Cond.instanceMethod yX3_best, Cond.selects RX3 yX3_best yX3_best, Cond.code yX3_best cX3_best 7 (some .int), Cond.methodLink RL 212 yL_plantDepth, Cond.static yL_plantDepth, Cond.codeWith yL_plantDepth cL_plantDepth 5 (some .int) [(0, 10, 13, 13), (0, 10, 17, 15)], Cond.methodLink RL 100 yX2_plantDepth]
def wsL_law0_r30 : List Cond := [Cond.instanceMethod yX2_plantDepth, Cond.selects RX2 yX2_plantDepth yX2_plantDepth, Cond.code yX2_plantDepth cX2_plantDepth 5 (some .int), Cond.methodLink RX2 162 yX1_nearest, Cond.methodLink RL 214 yX3_plantDepth, Cond.instanceMethod yX3_plantDepth, Cond.selects RX3 yX3_plantDepth yX3_plantDepth, Cond.code yX3_plantDepth cX3_plantDepth 3 (some .int), Cond.methodLink RX3 154 yX3_plantDeep, Cond.instanceMethod yX3_plantDeep, Cond.selects RX3 yX3_plantDeep yX3_plantDeep, Cond.code yX3_plantDeep cX3_plantDeep 5 (some .int), Cond.methodLink RL 215 yL_canJoin, Cond.static yL_canJoin, Cond.codeWith yL_canJoin cL_canJoin 5 (some .int) [(0, 17, 20, 13)], Cond.methodLink RL 103 yX2_canJoin, Cond.instanceMethod yX2_canJoin, Cond.selects RX2 yX2_canJoin yX2_canJoin, Cond.code yX2_canJoin cX2_canJoin 3 (some .boolean), Cond.methodLink RL 217 yX3_canJoin, Cond.instanceMethod yX3_canJoin, Cond.selects RX3 yX3_canJoin yX3_canJoin, Cond.code yX3_canJoin cX3_canJoin 3 (some .boolean), Cond.methodLink RL 218 yL_meanDepth]
def wsL_law0_r31 : List Cond := [Cond.static yL_meanDepth, Cond.codeWith yL_meanDepth cL_meanDepth 4 (some .int) [(0, 8, 11, 13)], Cond.methodLink RL 106 yX2_meanDepth, Cond.instanceMethod yX2_meanDepth, Cond.selects RX2 yX2_meanDepth yX2_meanDepth, Cond.code yX2_meanDepth cX2_meanDepth 4 (some .double), Cond.methodLink RL 221 yX3_meanDepth, Cond.instanceMethod yX3_meanDepth, Cond.selects RX3 yX3_meanDepth yX3_meanDepth, Cond.code yX3_meanDepth cX3_meanDepth 2 (some .double), Cond.methodLink RL 222 yX2_digest, Cond.instanceMethod yX2_digest, Cond.selects RX2 yX2_digest yX2_digest, Cond.code yX2_digest cX2_digest 5 (some .long), Cond.constantLong RX2 165 (2339), Cond.methodLink RX2 167 yX2_mix, Cond.static yX2_mix, Cond.code yX2_mix cX2_mix 3 (some .long), Cond.constantLong RX2 204 (31), Cond.methodLink RX2 171 yX2_turnings, Cond.methodLink RX2 174 yX2_mixRow, Cond.instanceMethod yX2_mixRow, Cond.selects RX2 yX2_mixRow yX2_mixRow, Cond.code yX2_mixRow cX2_mixRow 6 (some .long)]
def wsL_law0_r32 : List Cond := [Cond.methodLink RX2 181 yX2_sizeOf, Cond.methodLink RX2 184 yX2_top, Cond.methodLink RX2 186 yX2_height, Cond.methodLink RX2 189 yX2_leastHeight, Cond.methodLink RX2 192 yX2_depths, Cond.methodLink RX2 195 yX2_leaves, Cond.methodLink RX2 198 yX2_favourite, Cond.methodLink RX2 201 yX2_bestToEat, Cond.methodLink RX2 177 yX2_mixApple, Cond.static yX2_mixApple, Cond.code yX2_mixApple cX2_mixApple 5 (some .long), Cond.methodLink RL 226 yX3_digest, Cond.instanceMethod yX3_digest, Cond.selects RX3 yX3_digest yX3_digest, Cond.code yX3_digest cX3_digest 7 (some .long), Cond.constantLong RX3 157 (72509), Cond.constantLong RX3 159 (31)]
def wsL_law0 : List Cond := (wsL_law0_r1 ++ (wsL_law0_r2 ++ (wsL_law0_r3 ++ (wsL_law0_r4 ++ (wsL_law0_r5 ++ (wsL_law0_r6 ++ (wsL_law0_r7 ++ (wsL_law0_r8 ++ (wsL_law0_r9 ++ (wsL_law0_r10 ++ (wsL_law0_r11 ++ (wsL_law0_r12 ++ (wsL_law0_r13 ++ (wsL_law0_r14 ++ (wsL_law0_r15 ++ (wsL_law0_r16 ++ (wsL_law0_r17 ++ (wsL_law0_r18 ++ (wsL_law0_r19 ++ (wsL_law0_r20 ++ (wsL_law0_r21 ++ (wsL_law0_r22 ++ (wsL_law0_r23 ++ (wsL_law0_r24 ++ (wsL_law0_r25 ++ (wsL_law0_r26 ++ (wsL_law0_r27 ++ (wsL_law0_r28 ++ (wsL_law0_r29 ++ (wsL_law0_r30 ++ (wsL_law0_r31 ++ wsL_law0_r32))))))))))))))))))))))))))))))) ++ wsX20 ++ wsX30 ++ wsX10 ++ wsX00 ++ ([] : List Cond)
def wsL_law : List Cond := wsL_law0 ++ (vx_atS RX2 36 "java/lang/IllegalStateException" ["java/lang/RuntimeException", "java/lang/Exception"]).filter goodWord ++ (vx_atS RX2 129 "java/lang/IndexOutOfBoundsException" ["java/lang/RuntimeException", "java/lang/Exception"]).filter goodWord ++ (vx_atS RX2 212 "java/lang/IllegalArgumentException" ["java/lang/RuntimeException", "java/lang/Exception"]).filter goodWord
set_option maxRecDepth 20000 in
theorem wsL_law_in0 : ∀ w ∈ wsL_law0, w ∈ lw_tbl := fun w h => (goodIn_p wsL_law0 [56, 59, 65, 637, 314, 132, 317, 85, 89, 93, 97, 101, 105, 353, 357, 361, 367, 401, 405, 294, 298, 411, 281, 224, 285, 289, 666, 669, 673, 676, 680, 684, 688, 692, 696, 700, 704, 708, 712, 715, 662, 418, 421, 719, 723, 429, 434, 438, 727, 731, 735, 739, 743, 447, 453, 219, 747, 751, 755, 759, 763, 460, 463, 767, 771, 775, 779, 109, 783, 128, 787, 204, 207, 791, 795, 211, 215, 227, 799, 803, 232, 808, 812, 236, 240, 816, 820, 491, 824, 498, 828, 505, 509, 832, 244, 248, 836, 840, 521, 844, 848, 528, 532, 852, 539, 856, 860, 546, 864, 553, 868, 560, 872, 567, 876, 574, 880, 252, 256, 884, 888, 585, 589, 592, 892, 599, 265, 269, 273, 276, 896, 900, 907, 606, 911, 260, 915, 919, 617, 923, 927, 625, 931, 632, 935, 113, 118, 124, 302, 939] (by decide +kernel) (by decide +kernel) w h).1
theorem wsL_law_x0 : ∀ w ∈ (vx_atS RX2 36 "java/lang/IllegalStateException" ["java/lang/RuntimeException", "java/lang/Exception"]).filter goodWord, w ∈ lw_tbl := by decide +kernel
theorem wsL_law_x1 : ∀ w ∈ (vx_atS RX2 129 "java/lang/IndexOutOfBoundsException" ["java/lang/RuntimeException", "java/lang/Exception"]).filter goodWord, w ∈ lw_tbl := by decide +kernel
theorem wsL_law_x2 : ∀ w ∈ (vx_atS RX2 212 "java/lang/IllegalArgumentException" ["java/lang/RuntimeException", "java/lang/Exception"]).filter goodWord, w ∈ lw_tbl := by decide +kernel
theorem wsL_law_in : ∀ w ∈ wsL_law, w ∈ lw_tbl := fun w h => (List.mem_append.mp h).elim (fun h => (List.mem_append.mp h).elim (fun h => (List.mem_append.mp h).elim (fun h => wsL_law_in0 w h) (fun h => wsL_law_x0 w h)) (fun h => wsL_law_x1 w h)) (fun h => wsL_law_x2 w h)
theorem inlX0 : ∀ w ∈ wsX00, w ∈ wsL_law := fun _ h => List.mem_append_left _ (List.mem_append_left _ (List.mem_append_left _ (List.mem_append_left _ (List.mem_append_right _ h))))
theorem inX0 : ∀ w ∈ wsX00, w ∈ lw_tbl := fun w h => wsL_law_in w (inlX0 w h)
theorem inlX1 : ∀ w ∈ wsX10, w ∈ wsL_law := fun _ h => List.mem_append_left _ (List.mem_append_left _ (List.mem_append_left _ (List.mem_append_left _ (List.mem_append_left _ (List.mem_append_right _ h)))))
theorem inX1 : ∀ w ∈ wsX10, w ∈ lw_tbl := fun w h => wsL_law_in w (inlX1 w h)
theorem inlX2 : ∀ w ∈ wsX20, w ∈ wsL_law := fun _ h => List.mem_append_left _ (List.mem_append_left _ (List.mem_append_left _ (List.mem_append_left _ (List.mem_append_left _ (List.mem_append_left _ (List.mem_append_left _ (List.mem_append_right _ h)))))))
theorem inX2 : ∀ w ∈ wsX20, w ∈ lw_tbl := fun w h => wsL_law_in w (inlX2 w h)
theorem inlX3 : ∀ w ∈ wsX30, w ∈ wsL_law := fun _ h => List.mem_append_left _ (List.mem_append_left _ (List.mem_append_left _ (List.mem_append_left _ (List.mem_append_left _ (List.mem_append_left _ (List.mem_append_right _ h))))))
theorem inX3 : ∀ w ∈ wsX30, w ∈ lw_tbl := fun w h => wsL_law_in w (inlX3 w h)
theorem inJ9 : ∀ w ∈ wsJ90, w ∈ lw_tbl := by decide +kernel
theorem inJ0 : ∀ w ∈ wsJ00, w ∈ lw_tbl := by decide +kernel
theorem inJ10 : ∀ w ∈ wsJ100, w ∈ lw_tbl := by decide +kernel
theorem dX0_init_0 : decode cX0_init 0 = .ok (.aload_n 0, 1) := by decide +kernel
theorem dX0_init_1 : decode cX0_init 1 = .ok (.invokespecial 1, 3) := by decide +kernel
theorem dX0_init_4 : decode cX0_init 4 = .ok (.aload_n 0, 1) := by decide +kernel
theorem dX0_init_5 : decode cX0_init 5 = .ok (.iload_n 1, 1) := by decide +kernel
theorem dX0_init_6 : decode cX0_init 6 = .ok (.putfield 7, 3) := by decide +kernel
theorem dX0_init_9 : decode cX0_init 9 = .ok (.aload_n 0, 1) := by decide +kernel
theorem dX0_init_10 : decode cX0_init 10 = .ok (.aload_n 2, 1) := by decide +kernel
theorem dX0_init_11 : decode cX0_init 11 = .ok (.putfield 13, 3) := by decide +kernel
theorem dX0_init_14 : decode cX0_init 14 = .ok (.return_, 1) := by decide +kernel
theorem dX0_hangLeft_0 : decode cX0_hangLeft 0 = .ok (.aload_n 0, 1) := by decide +kernel
theorem dX0_hangLeft_1 : decode cX0_hangLeft 1 = .ok (.aload_n 1, 1) := by decide +kernel
theorem dX0_hangLeft_2 : decode cX0_hangLeft 2 = .ok (.putfield 17, 3) := by decide +kernel
theorem dX0_hangLeft_5 : decode cX0_hangLeft 5 = .ok (.aload_n 1, 1) := by decide +kernel
theorem dX0_hangLeft_6 : decode cX0_hangLeft 6 = .ok (.ifnull 8, 3) := by decide +kernel
theorem dX0_hangLeft_9 : decode cX0_hangLeft 9 = .ok (.aload_n 1, 1) := by decide +kernel
theorem dX0_hangLeft_10 : decode cX0_hangLeft 10 = .ok (.aload_n 0, 1) := by decide +kernel
theorem dX0_hangLeft_11 : decode cX0_hangLeft 11 = .ok (.putfield 20, 3) := by decide +kernel
theorem dX0_hangLeft_14 : decode cX0_hangLeft 14 = .ok (.return_, 1) := by decide +kernel
theorem dX0_hangRight_0 : decode cX0_hangRight 0 = .ok (.aload_n 0, 1) := by decide +kernel
theorem dX0_hangRight_1 : decode cX0_hangRight 1 = .ok (.aload_n 1, 1) := by decide +kernel
theorem dX0_hangRight_2 : decode cX0_hangRight 2 = .ok (.putfield 23, 3) := by decide +kernel
theorem dX0_hangRight_5 : decode cX0_hangRight 5 = .ok (.aload_n 1, 1) := by decide +kernel
theorem dX0_hangRight_6 : decode cX0_hangRight 6 = .ok (.ifnull 8, 3) := by decide +kernel
theorem dX0_hangRight_9 : decode cX0_hangRight 9 = .ok (.aload_n 1, 1) := by decide +kernel
theorem dX0_hangRight_10 : decode cX0_hangRight 10 = .ok (.aload_n 0, 1) := by decide +kernel
theorem dX0_hangRight_11 : decode cX0_hangRight 11 = .ok (.putfield 20, 3) := by decide +kernel
theorem dX0_hangRight_14 : decode cX0_hangRight 14 = .ok (.return_, 1) := by decide +kernel
theorem dX0_isOnTheLeft_0 : decode cX0_isOnTheLeft 0 = .ok (.aload_n 0, 1) := by decide +kernel
theorem dX0_isOnTheLeft_1 : decode cX0_isOnTheLeft 1 = .ok (.getfield 20, 3) := by decide +kernel
theorem dX0_isOnTheLeft_4 : decode cX0_isOnTheLeft 4 = .ok (.ifnull 18, 3) := by decide +kernel
theorem dX0_isOnTheLeft_7 : decode cX0_isOnTheLeft 7 = .ok (.aload_n 0, 1) := by decide +kernel
theorem dX0_isOnTheLeft_8 : decode cX0_isOnTheLeft 8 = .ok (.getfield 20, 3) := by decide +kernel
theorem dX0_isOnTheLeft_11 : decode cX0_isOnTheLeft 11 = .ok (.getfield 17, 3) := by decide +kernel
theorem dX0_isOnTheLeft_14 : decode cX0_isOnTheLeft 14 = .ok (.aload_n 0, 1) := by decide +kernel
theorem dX0_isOnTheLeft_15 : decode cX0_isOnTheLeft 15 = .ok (.if_acmp .ne 7, 3) := by decide +kernel
theorem dX0_isOnTheLeft_18 : decode cX0_isOnTheLeft 18 = .ok (.iconst 1, 1) := by decide +kernel
theorem dX0_isOnTheLeft_19 : decode cX0_isOnTheLeft 19 = .ok (.goto 4, 3) := by decide +kernel
theorem dX0_isOnTheLeft_22 : decode cX0_isOnTheLeft 22 = .ok (.iconst 0, 1) := by decide +kernel
theorem dX0_isOnTheLeft_23 : decode cX0_isOnTheLeft 23 = .ok (.ireturn, 1) := by decide +kernel
set_option maxRecDepth 20000 in
theorem ggX0_turn_X0_isOnTheLeft : GoodIn wsX0_turn wsX0_isOnTheLeft := goodIn_r _ [8, 1, 3, 17, 18, 19, 20, 21, 22] (by decide +kernel) (by decide +kernel)
set_option maxRecDepth 20000 in
theorem gX0_turn_X0_isOnTheLeft : GoodIn wsX0_turn (wsV RX0 26 RX0 yX0_isOnTheLeft wsX0_isOnTheLeft) := goodIn_app (goodIn_of _ (by decide +kernel)) ggX0_turn_X0_isOnTheLeft
set_option maxRecDepth 20000 in
theorem ggX0_turn_X0_hangLeft : GoodIn wsX0_turn wsX0_hangLeft := goodIn_r _ [12, 3, 1, 17, 18, 19, 20, 21, 22] (by decide +kernel) (by decide +kernel)
set_option maxRecDepth 20000 in
theorem gX0_turn_X0_hangLeft : GoodIn wsX0_turn (wsV RX0 30 RX0 yX0_hangLeft wsX0_hangLeft) := goodIn_app (goodIn_of _ (by decide +kernel)) ggX0_turn_X0_hangLeft
set_option maxRecDepth 20000 in
theorem ggX0_turn_X0_hangRight : GoodIn wsX0_turn wsX0_hangRight := goodIn_r _ [16, 2, 1, 17, 18, 19, 20, 21, 22] (by decide +kernel) (by decide +kernel)
set_option maxRecDepth 20000 in
theorem gX0_turn_X0_hangRight : GoodIn wsX0_turn (wsV RX0 34 RX0 yX0_hangRight wsX0_hangRight) := goodIn_app (goodIn_of _ (by decide +kernel)) ggX0_turn_X0_hangRight
theorem dX0_turn_0 : decode cX0_turn 0 = .ok (.aload_n 0, 1) := by decide +kernel
theorem dX0_turn_1 : decode cX0_turn 1 = .ok (.getfield 20, 3) := by decide +kernel
theorem dX0_turn_4 : decode cX0_turn 4 = .ok (.astore_n 1, 1) := by decide +kernel
theorem dX0_turn_5 : decode cX0_turn 5 = .ok (.aload_n 1, 1) := by decide +kernel
theorem dX0_turn_6 : decode cX0_turn 6 = .ok (.ifnonnull 4, 3) := by decide +kernel
theorem dX0_turn_9 : decode cX0_turn 9 = .ok (.return_, 1) := by decide +kernel
theorem dX0_turn_10 : decode cX0_turn 10 = .ok (.aload_n 1, 1) := by decide +kernel
theorem dX0_turn_11 : decode cX0_turn 11 = .ok (.getfield 20, 3) := by decide +kernel
theorem dX0_turn_14 : decode cX0_turn 14 = .ok (.astore_n 2, 1) := by decide +kernel
theorem dX0_turn_15 : decode cX0_turn 15 = .ok (.aload_n 1, 1) := by decide +kernel
theorem dX0_turn_16 : decode cX0_turn 16 = .ok (.invokevirtual 26, 3) := by decide +kernel
theorem dX0_turn_19 : decode cX0_turn 19 = .ok (.istore_n 3, 1) := by decide +kernel
theorem dX0_turn_20 : decode cX0_turn 20 = .ok (.aload_n 0, 1) := by decide +kernel
theorem dX0_turn_21 : decode cX0_turn 21 = .ok (.invokevirtual 26, 3) := by decide +kernel
theorem dX0_turn_24 : decode cX0_turn 24 = .ok (.ifCond .eq 19, 3) := by decide +kernel
theorem dX0_turn_27 : decode cX0_turn 27 = .ok (.aload_n 1, 1) := by decide +kernel
theorem dX0_turn_28 : decode cX0_turn 28 = .ok (.aload_n 0, 1) := by decide +kernel
theorem dX0_turn_29 : decode cX0_turn 29 = .ok (.getfield 23, 3) := by decide +kernel
theorem dX0_turn_32 : decode cX0_turn 32 = .ok (.invokevirtual 30, 3) := by decide +kernel
theorem dX0_turn_35 : decode cX0_turn 35 = .ok (.aload_n 0, 1) := by decide +kernel
theorem dX0_turn_36 : decode cX0_turn 36 = .ok (.aload_n 1, 1) := by decide +kernel
theorem dX0_turn_37 : decode cX0_turn 37 = .ok (.invokevirtual 34, 3) := by decide +kernel
theorem dX0_turn_40 : decode cX0_turn 40 = .ok (.goto 16, 3) := by decide +kernel
theorem dX0_turn_43 : decode cX0_turn 43 = .ok (.aload_n 1, 1) := by decide +kernel
theorem dX0_turn_44 : decode cX0_turn 44 = .ok (.aload_n 0, 1) := by decide +kernel
theorem dX0_turn_45 : decode cX0_turn 45 = .ok (.getfield 17, 3) := by decide +kernel
theorem dX0_turn_48 : decode cX0_turn 48 = .ok (.invokevirtual 34, 3) := by decide +kernel
theorem dX0_turn_51 : decode cX0_turn 51 = .ok (.aload_n 0, 1) := by decide +kernel
theorem dX0_turn_52 : decode cX0_turn 52 = .ok (.aload_n 1, 1) := by decide +kernel
theorem dX0_turn_53 : decode cX0_turn 53 = .ok (.invokevirtual 30, 3) := by decide +kernel
theorem dX0_turn_56 : decode cX0_turn 56 = .ok (.aload_n 0, 1) := by decide +kernel
theorem dX0_turn_57 : decode cX0_turn 57 = .ok (.aload_n 2, 1) := by decide +kernel
theorem dX0_turn_58 : decode cX0_turn 58 = .ok (.putfield 20, 3) := by decide +kernel
theorem dX0_turn_61 : decode cX0_turn 61 = .ok (.aload_n 2, 1) := by decide +kernel
theorem dX0_turn_62 : decode cX0_turn 62 = .ok (.ifnull 15, 3) := by decide +kernel
theorem dX0_turn_65 : decode cX0_turn 65 = .ok (.iload_n 3, 1) := by decide +kernel
theorem dX0_turn_66 : decode cX0_turn 66 = .ok (.ifCond .eq 11, 3) := by decide +kernel
theorem dX0_turn_69 : decode cX0_turn 69 = .ok (.aload_n 2, 1) := by decide +kernel
theorem dX0_turn_70 : decode cX0_turn 70 = .ok (.aload_n 0, 1) := by decide +kernel
theorem dX0_turn_71 : decode cX0_turn 71 = .ok (.invokevirtual 30, 3) := by decide +kernel
theorem dX0_turn_74 : decode cX0_turn 74 = .ok (.goto 12, 3) := by decide +kernel
theorem dX0_turn_77 : decode cX0_turn 77 = .ok (.aload_n 2, 1) := by decide +kernel
theorem dX0_turn_78 : decode cX0_turn 78 = .ok (.ifnull 8, 3) := by decide +kernel
theorem dX0_turn_81 : decode cX0_turn 81 = .ok (.aload_n 2, 1) := by decide +kernel
theorem dX0_turn_82 : decode cX0_turn 82 = .ok (.aload_n 0, 1) := by decide +kernel
theorem dX0_turn_83 : decode cX0_turn 83 = .ok (.invokevirtual 34, 3) := by decide +kernel
theorem dX0_turn_86 : decode cX0_turn 86 = .ok (.return_, 1) := by decide +kernel
theorem dX0_depth_0 : decode cX0_depth 0 = .ok (.iconst 0, 1) := by decide +kernel
theorem dX0_depth_1 : decode cX0_depth 1 = .ok (.istore_n 1, 1) := by decide +kernel
theorem dX0_depth_2 : decode cX0_depth 2 = .ok (.aload_n 0, 1) := by decide +kernel
theorem dX0_depth_3 : decode cX0_depth 3 = .ok (.getfield 20, 3) := by decide +kernel
theorem dX0_depth_6 : decode cX0_depth 6 = .ok (.astore_n 2, 1) := by decide +kernel
theorem dX0_depth_7 : decode cX0_depth 7 = .ok (.aload_n 2, 1) := by decide +kernel
theorem dX0_depth_8 : decode cX0_depth 8 = .ok (.ifnull 14, 3) := by decide +kernel
theorem dX0_depth_11 : decode cX0_depth 11 = .ok (.iinc 1 1, 3) := by decide +kernel
theorem dX0_depth_14 : decode cX0_depth 14 = .ok (.aload_n 2, 1) := by decide +kernel
theorem dX0_depth_15 : decode cX0_depth 15 = .ok (.getfield 20, 3) := by decide +kernel
theorem dX0_depth_18 : decode cX0_depth 18 = .ok (.astore_n 2, 1) := by decide +kernel
theorem dX0_depth_19 : decode cX0_depth 19 = .ok (.goto (-12), 3) := by decide +kernel
theorem dX0_depth_22 : decode cX0_depth 22 = .ok (.iload_n 1, 1) := by decide +kernel
theorem dX0_depth_23 : decode cX0_depth 23 = .ok (.ireturn, 1) := by decide +kernel
theorem dX0_towards_0 : decode cX0_towards 0 = .ok (.iload_n 1, 1) := by decide +kernel
theorem dX0_towards_1 : decode cX0_towards 1 = .ok (.aload_n 0, 1) := by decide +kernel
theorem dX0_towards_2 : decode cX0_towards 2 = .ok (.getfield 7, 3) := by decide +kernel
theorem dX0_towards_5 : decode cX0_towards 5 = .ok (.if_icmp .ne 5, 3) := by decide +kernel
theorem dX0_towards_8 : decode cX0_towards 8 = .ok (.aconst_null, 1) := by decide +kernel
theorem dX0_towards_9 : decode cX0_towards 9 = .ok (.areturn, 1) := by decide +kernel
theorem dX0_towards_10 : decode cX0_towards 10 = .ok (.iload_n 1, 1) := by decide +kernel
theorem dX0_towards_11 : decode cX0_towards 11 = .ok (.aload_n 0, 1) := by decide +kernel
theorem dX0_towards_12 : decode cX0_towards 12 = .ok (.getfield 7, 3) := by decide +kernel
theorem dX0_towards_15 : decode cX0_towards 15 = .ok (.if_icmp .ge 10, 3) := by decide +kernel
theorem dX0_towards_18 : decode cX0_towards 18 = .ok (.aload_n 0, 1) := by decide +kernel
theorem dX0_towards_19 : decode cX0_towards 19 = .ok (.getfield 17, 3) := by decide +kernel
theorem dX0_towards_22 : decode cX0_towards 22 = .ok (.goto 7, 3) := by decide +kernel
theorem dX0_towards_25 : decode cX0_towards 25 = .ok (.aload_n 0, 1) := by decide +kernel
theorem dX0_towards_26 : decode cX0_towards 26 = .ok (.getfield 23, 3) := by decide +kernel
theorem dX0_towards_29 : decode cX0_towards 29 = .ok (.areturn, 1) := by decide +kernel
theorem dX0_leastUnder_0 : decode cX0_leastUnder 0 = .ok (.aload_n 0, 1) := by decide +kernel
theorem dX0_leastUnder_1 : decode cX0_leastUnder 1 = .ok (.astore_n 1, 1) := by decide +kernel
theorem dX0_leastUnder_2 : decode cX0_leastUnder 2 = .ok (.aload_n 1, 1) := by decide +kernel
theorem dX0_leastUnder_3 : decode cX0_leastUnder 3 = .ok (.getfield 17, 3) := by decide +kernel
theorem dX0_leastUnder_6 : decode cX0_leastUnder 6 = .ok (.ifnull 11, 3) := by decide +kernel
theorem dX0_leastUnder_9 : decode cX0_leastUnder 9 = .ok (.aload_n 1, 1) := by decide +kernel
theorem dX0_leastUnder_10 : decode cX0_leastUnder 10 = .ok (.getfield 17, 3) := by decide +kernel
theorem dX0_leastUnder_13 : decode cX0_leastUnder 13 = .ok (.astore_n 1, 1) := by decide +kernel
theorem dX0_leastUnder_14 : decode cX0_leastUnder 14 = .ok (.goto (-12), 3) := by decide +kernel
theorem dX0_leastUnder_17 : decode cX0_leastUnder 17 = .ok (.aload_n 1, 1) := by decide +kernel
theorem dX0_leastUnder_18 : decode cX0_leastUnder 18 = .ok (.areturn, 1) := by decide +kernel
theorem dX0_greatestUnder_0 : decode cX0_greatestUnder 0 = .ok (.aload_n 0, 1) := by decide +kernel
theorem dX0_greatestUnder_1 : decode cX0_greatestUnder 1 = .ok (.astore_n 1, 1) := by decide +kernel
theorem dX0_greatestUnder_2 : decode cX0_greatestUnder 2 = .ok (.aload_n 1, 1) := by decide +kernel
theorem dX0_greatestUnder_3 : decode cX0_greatestUnder 3 = .ok (.getfield 23, 3) := by decide +kernel
theorem dX0_greatestUnder_6 : decode cX0_greatestUnder 6 = .ok (.ifnull 11, 3) := by decide +kernel
theorem dX0_greatestUnder_9 : decode cX0_greatestUnder 9 = .ok (.aload_n 1, 1) := by decide +kernel
theorem dX0_greatestUnder_10 : decode cX0_greatestUnder 10 = .ok (.getfield 23, 3) := by decide +kernel
theorem dX0_greatestUnder_13 : decode cX0_greatestUnder 13 = .ok (.astore_n 1, 1) := by decide +kernel
theorem dX0_greatestUnder_14 : decode cX0_greatestUnder 14 = .ok (.goto (-12), 3) := by decide +kernel
theorem dX0_greatestUnder_17 : decode cX0_greatestUnder 17 = .ok (.aload_n 1, 1) := by decide +kernel
theorem dX0_greatestUnder_18 : decode cX0_greatestUnder 18 = .ok (.areturn, 1) := by decide +kernel
set_option maxRecDepth 20000 in
theorem ggX0_next_X0_leastUnder : GoodIn wsX0_next wsX0_leastUnder := goodIn_r _ [7, 8, 9, 10, 11, 12, 13, 14] (by decide +kernel) (by decide +kernel)
set_option maxRecDepth 20000 in
theorem gX0_next_X0_leastUnder : GoodIn wsX0_next (wsV RX0 37 RX0 yX0_leastUnder wsX0_leastUnder) := goodIn_app (goodIn_of _ (by decide +kernel)) ggX0_next_X0_leastUnder
theorem dX0_next_0 : decode cX0_next 0 = .ok (.aload_n 0, 1) := by decide +kernel
theorem dX0_next_1 : decode cX0_next 1 = .ok (.getfield 23, 3) := by decide +kernel
theorem dX0_next_4 : decode cX0_next 4 = .ok (.ifnull 11, 3) := by decide +kernel
theorem dX0_next_7 : decode cX0_next 7 = .ok (.aload_n 0, 1) := by decide +kernel
theorem dX0_next_8 : decode cX0_next 8 = .ok (.getfield 23, 3) := by decide +kernel
theorem dX0_next_11 : decode cX0_next 11 = .ok (.invokevirtual 37, 3) := by decide +kernel
theorem dX0_next_14 : decode cX0_next 14 = .ok (.areturn, 1) := by decide +kernel
theorem dX0_next_15 : decode cX0_next 15 = .ok (.aload_n 0, 1) := by decide +kernel
theorem dX0_next_16 : decode cX0_next 16 = .ok (.astore_n 1, 1) := by decide +kernel
theorem dX0_next_17 : decode cX0_next 17 = .ok (.aload_n 1, 1) := by decide +kernel
theorem dX0_next_18 : decode cX0_next 18 = .ok (.getfield 20, 3) := by decide +kernel
theorem dX0_next_21 : decode cX0_next 21 = .ok (.ifnull 22, 3) := by decide +kernel
theorem dX0_next_24 : decode cX0_next 24 = .ok (.aload_n 1, 1) := by decide +kernel
theorem dX0_next_25 : decode cX0_next 25 = .ok (.getfield 20, 3) := by decide +kernel
theorem dX0_next_28 : decode cX0_next 28 = .ok (.getfield 23, 3) := by decide +kernel
theorem dX0_next_31 : decode cX0_next 31 = .ok (.aload_n 1, 1) := by decide +kernel
theorem dX0_next_32 : decode cX0_next 32 = .ok (.if_acmp .ne 11, 3) := by decide +kernel
theorem dX0_next_35 : decode cX0_next 35 = .ok (.aload_n 1, 1) := by decide +kernel
theorem dX0_next_36 : decode cX0_next 36 = .ok (.getfield 20, 3) := by decide +kernel
theorem dX0_next_39 : decode cX0_next 39 = .ok (.astore_n 1, 1) := by decide +kernel
theorem dX0_next_40 : decode cX0_next 40 = .ok (.goto (-23), 3) := by decide +kernel
theorem dX0_next_43 : decode cX0_next 43 = .ok (.aload_n 1, 1) := by decide +kernel
theorem dX0_next_44 : decode cX0_next 44 = .ok (.getfield 20, 3) := by decide +kernel
theorem dX0_next_47 : decode cX0_next 47 = .ok (.areturn, 1) := by decide +kernel
set_option maxRecDepth 20000 in
theorem ggX0_countUnder_X0_greatestUnder : GoodIn wsX0_countUnder wsX0_greatestUnder := goodIn_r _ [5, 6, 17, 18, 19, 20, 21, 22] (by decide +kernel) (by decide +kernel)
set_option maxRecDepth 20000 in
theorem gX0_countUnder_X0_greatestUnder : GoodIn wsX0_countUnder (wsV RX0 41 RX0 yX0_greatestUnder wsX0_greatestUnder) := goodIn_app (goodIn_of _ (by decide +kernel)) ggX0_countUnder_X0_greatestUnder
set_option maxRecDepth 20000 in
theorem ggX0_countUnder_X0_leastUnder : GoodIn wsX0_countUnder wsX0_leastUnder := goodIn_r _ [10, 11, 17, 18, 19, 20, 21, 22] (by decide +kernel) (by decide +kernel)
set_option maxRecDepth 20000 in
theorem gX0_countUnder_X0_leastUnder : GoodIn wsX0_countUnder (wsV RX0 37 RX0 yX0_leastUnder wsX0_leastUnder) := goodIn_app (goodIn_of _ (by decide +kernel)) ggX0_countUnder_X0_leastUnder
set_option maxRecDepth 20000 in
theorem ggX0_countUnder_X0_next : GoodIn wsX0_countUnder wsX0_next := goodIn_r _ [15, 6, 16, 7, 8, 9, 4, 10, 11, 17, 18, 19, 20, 21, 22] (by decide +kernel) (by decide +kernel)
set_option maxRecDepth 20000 in
theorem gX0_countUnder_X0_next : GoodIn wsX0_countUnder (wsV RX0 44 RX0 yX0_next wsX0_next) := goodIn_app (goodIn_of _ (by decide +kernel)) ggX0_countUnder_X0_next
theorem dX0_countUnder_0 : decode cX0_countUnder 0 = .ok (.aload_n 0, 1) := by decide +kernel
theorem dX0_countUnder_1 : decode cX0_countUnder 1 = .ok (.invokevirtual 41, 3) := by decide +kernel
theorem dX0_countUnder_4 : decode cX0_countUnder 4 = .ok (.astore_n 1, 1) := by decide +kernel
theorem dX0_countUnder_5 : decode cX0_countUnder 5 = .ok (.iconst 0, 1) := by decide +kernel
theorem dX0_countUnder_6 : decode cX0_countUnder 6 = .ok (.istore_n 2, 1) := by decide +kernel
theorem dX0_countUnder_7 : decode cX0_countUnder 7 = .ok (.aload_n 0, 1) := by decide +kernel
theorem dX0_countUnder_8 : decode cX0_countUnder 8 = .ok (.invokevirtual 37, 3) := by decide +kernel
theorem dX0_countUnder_11 : decode cX0_countUnder 11 = .ok (.astore_n 3, 1) := by decide +kernel
theorem dX0_countUnder_12 : decode cX0_countUnder 12 = .ok (.aload_n 3, 1) := by decide +kernel
theorem dX0_countUnder_13 : decode cX0_countUnder 13 = .ok (.ifnull 19, 3) := by decide +kernel
theorem dX0_countUnder_16 : decode cX0_countUnder 16 = .ok (.aload_n 3, 1) := by decide +kernel
theorem dX0_countUnder_17 : decode cX0_countUnder 17 = .ok (.aload_n 1, 1) := by decide +kernel
theorem dX0_countUnder_18 : decode cX0_countUnder 18 = .ok (.if_acmp .eq 14, 3) := by decide +kernel
theorem dX0_countUnder_21 : decode cX0_countUnder 21 = .ok (.iinc 2 1, 3) := by decide +kernel
theorem dX0_countUnder_24 : decode cX0_countUnder 24 = .ok (.aload_n 3, 1) := by decide +kernel
theorem dX0_countUnder_25 : decode cX0_countUnder 25 = .ok (.invokevirtual 44, 3) := by decide +kernel
theorem dX0_countUnder_28 : decode cX0_countUnder 28 = .ok (.astore_n 3, 1) := by decide +kernel
theorem dX0_countUnder_29 : decode cX0_countUnder 29 = .ok (.goto (-17), 3) := by decide +kernel
theorem dX0_countUnder_32 : decode cX0_countUnder 32 = .ok (.iload_n 2, 1) := by decide +kernel
theorem dX0_countUnder_33 : decode cX0_countUnder 33 = .ok (.ireturn, 1) := by decide +kernel
set_option maxRecDepth 20000 in
theorem ggX0_linkStandIn_X0_standInOf : GoodIn wsX0_linkStandIn wsX0_standInOf := goodIn_r _ [8, 1, 9, 10, 11, 12, 13, 14] (by decide +kernel) (by decide +kernel)
set_option maxRecDepth 20000 in
theorem gX0_linkStandIn_X0_standInOf : GoodIn wsX0_linkStandIn (va_wsS RX0 47 yX0_standInOf wsX0_standInOf) := goodIn_app (goodIn_of _ (by decide +kernel)) ggX0_linkStandIn_X0_standInOf
theorem dX0_linkStandIn_0 : decode cX0_linkStandIn 0 = .ok (.aload_n 0, 1) := by decide +kernel
theorem dX0_linkStandIn_1 : decode cX0_linkStandIn 1 = .ok (.getfield 13, 3) := by decide +kernel
theorem dX0_linkStandIn_4 : decode cX0_linkStandIn 4 = .ok (.ifnull 45, 3) := by decide +kernel
theorem dX0_linkStandIn_7 : decode cX0_linkStandIn 7 = .ok (.aload_n 0, 1) := by decide +kernel
theorem dX0_linkStandIn_8 : decode cX0_linkStandIn 8 = .ok (.getfield 13, 3) := by decide +kernel
theorem dX0_linkStandIn_11 : decode cX0_linkStandIn 11 = .ok (.aload_n 0, 1) := by decide +kernel
theorem dX0_linkStandIn_12 : decode cX0_linkStandIn 12 = .ok (.getfield 20, 3) := by decide +kernel
theorem dX0_linkStandIn_15 : decode cX0_linkStandIn 15 = .ok (.invokestatic 47, 3) := by decide +kernel
theorem dX0_linkStandIn_18 : decode cX0_linkStandIn 18 = .ok (.putfield 20, 3) := by decide +kernel
theorem dX0_linkStandIn_21 : decode cX0_linkStandIn 21 = .ok (.aload_n 0, 1) := by decide +kernel
theorem dX0_linkStandIn_22 : decode cX0_linkStandIn 22 = .ok (.getfield 13, 3) := by decide +kernel
theorem dX0_linkStandIn_25 : decode cX0_linkStandIn 25 = .ok (.aload_n 0, 1) := by decide +kernel
theorem dX0_linkStandIn_26 : decode cX0_linkStandIn 26 = .ok (.getfield 17, 3) := by decide +kernel
theorem dX0_linkStandIn_29 : decode cX0_linkStandIn 29 = .ok (.invokestatic 47, 3) := by decide +kernel
theorem dX0_linkStandIn_32 : decode cX0_linkStandIn 32 = .ok (.putfield 17, 3) := by decide +kernel
theorem dX0_linkStandIn_35 : decode cX0_linkStandIn 35 = .ok (.aload_n 0, 1) := by decide +kernel
theorem dX0_linkStandIn_36 : decode cX0_linkStandIn 36 = .ok (.getfield 13, 3) := by decide +kernel
theorem dX0_linkStandIn_39 : decode cX0_linkStandIn 39 = .ok (.aload_n 0, 1) := by decide +kernel
theorem dX0_linkStandIn_40 : decode cX0_linkStandIn 40 = .ok (.getfield 23, 3) := by decide +kernel
theorem dX0_linkStandIn_43 : decode cX0_linkStandIn 43 = .ok (.invokestatic 47, 3) := by decide +kernel
theorem dX0_linkStandIn_46 : decode cX0_linkStandIn 46 = .ok (.putfield 23, 3) := by decide +kernel
theorem dX0_linkStandIn_49 : decode cX0_linkStandIn 49 = .ok (.return_, 1) := by decide +kernel
theorem dX0_standInOf_0 : decode cX0_standInOf 0 = .ok (.aload_n 0, 1) := by decide +kernel
theorem dX0_standInOf_1 : decode cX0_standInOf 1 = .ok (.ifnonnull 7, 3) := by decide +kernel
theorem dX0_standInOf_4 : decode cX0_standInOf 4 = .ok (.aconst_null, 1) := by decide +kernel
theorem dX0_standInOf_5 : decode cX0_standInOf 5 = .ok (.goto 7, 3) := by decide +kernel
theorem dX0_standInOf_8 : decode cX0_standInOf 8 = .ok (.aload_n 0, 1) := by decide +kernel
theorem dX0_standInOf_9 : decode cX0_standInOf 9 = .ok (.getfield 13, 3) := by decide +kernel
theorem dX0_standInOf_12 : decode cX0_standInOf 12 = .ok (.areturn, 1) := by decide +kernel
theorem dX1_init_0 : decode cX1_init 0 = .ok (.aload_n 0, 1) := by decide +kernel
theorem dX1_init_1 : decode cX1_init 1 = .ok (.invokespecial 1, 3) := by decide +kernel
theorem dX1_init_4 : decode cX1_init 4 = .ok (.return_, 1) := by decide +kernel
theorem dX1_setTop_0 : decode cX1_setTop 0 = .ok (.aload_n 0, 1) := by decide +kernel
theorem dX1_setTop_1 : decode cX1_setTop 1 = .ok (.aload_n 1, 1) := by decide +kernel
theorem dX1_setTop_2 : decode cX1_setTop 2 = .ok (.putfield 7, 3) := by decide +kernel
theorem dX1_setTop_5 : decode cX1_setTop 5 = .ok (.aload_n 1, 1) := by decide +kernel
theorem dX1_setTop_6 : decode cX1_setTop 6 = .ok (.ifnull 8, 3) := by decide +kernel
theorem dX1_setTop_9 : decode cX1_setTop 9 = .ok (.aload_n 1, 1) := by decide +kernel
theorem dX1_setTop_10 : decode cX1_setTop 10 = .ok (.aconst_null, 1) := by decide +kernel
theorem dX1_setTop_11 : decode cX1_setTop 11 = .ok (.putfield 13, 3) := by decide +kernel
theorem dX1_setTop_14 : decode cX1_setTop 14 = .ok (.return_, 1) := by decide +kernel
set_option maxRecDepth 20000 in
theorem ggX1_first_X0_leastUnder : GoodIn wsX1_first wsX0_leastUnder := goodIn_r _ [6, 7, 9, 10, 11, 12, 13, 14] (by decide +kernel) (by decide +kernel)
set_option maxRecDepth 20000 in
theorem gX1_first_X0_leastUnder : GoodIn wsX1_first (wsV RX1 18 RX0 yX0_leastUnder wsX0_leastUnder) := goodIn_app (goodIn_of _ (by decide +kernel)) ggX1_first_X0_leastUnder
theorem dX1_first_0 : decode cX1_first 0 = .ok (.aload_n 0, 1) := by decide +kernel
theorem dX1_first_1 : decode cX1_first 1 = .ok (.getfield 7, 3) := by decide +kernel
theorem dX1_first_4 : decode cX1_first 4 = .ok (.ifnonnull 7, 3) := by decide +kernel
theorem dX1_first_7 : decode cX1_first 7 = .ok (.aconst_null, 1) := by decide +kernel
theorem dX1_first_8 : decode cX1_first 8 = .ok (.goto 10, 3) := by decide +kernel
theorem dX1_first_11 : decode cX1_first 11 = .ok (.aload_n 0, 1) := by decide +kernel
theorem dX1_first_12 : decode cX1_first 12 = .ok (.getfield 7, 3) := by decide +kernel
theorem dX1_first_15 : decode cX1_first 15 = .ok (.invokevirtual 18, 3) := by decide +kernel
theorem dX1_first_18 : decode cX1_first 18 = .ok (.areturn, 1) := by decide +kernel
set_option maxRecDepth 20000 in
theorem ggX1_last_X0_greatestUnder : GoodIn wsX1_last wsX0_greatestUnder := goodIn_r _ [6, 7, 9, 10, 11, 12, 13, 14] (by decide +kernel) (by decide +kernel)
set_option maxRecDepth 20000 in
theorem gX1_last_X0_greatestUnder : GoodIn wsX1_last (wsV RX1 22 RX0 yX0_greatestUnder wsX0_greatestUnder) := goodIn_app (goodIn_of _ (by decide +kernel)) ggX1_last_X0_greatestUnder
theorem dX1_last_0 : decode cX1_last 0 = .ok (.aload_n 0, 1) := by decide +kernel
theorem dX1_last_1 : decode cX1_last 1 = .ok (.getfield 7, 3) := by decide +kernel
theorem dX1_last_4 : decode cX1_last 4 = .ok (.ifnonnull 7, 3) := by decide +kernel
theorem dX1_last_7 : decode cX1_last 7 = .ok (.aconst_null, 1) := by decide +kernel
theorem dX1_last_8 : decode cX1_last 8 = .ok (.goto 10, 3) := by decide +kernel
theorem dX1_last_11 : decode cX1_last 11 = .ok (.aload_n 0, 1) := by decide +kernel
theorem dX1_last_12 : decode cX1_last 12 = .ok (.getfield 7, 3) := by decide +kernel
theorem dX1_last_15 : decode cX1_last 15 = .ok (.invokevirtual 22, 3) := by decide +kernel
theorem dX1_last_18 : decode cX1_last 18 = .ok (.areturn, 1) := by decide +kernel
set_option maxRecDepth 20000 in
theorem ggX1_nearest_X0_towards : GoodIn wsX1_nearest wsX0_towards := goodIn_r _ [6, 7, 8, 9, 11, 12, 13, 14, 15, 16] (by decide +kernel) (by decide +kernel)
set_option maxRecDepth 20000 in
theorem gX1_nearest_X0_towards : GoodIn wsX1_nearest (wsV RX1 25 RX0 yX0_towards wsX0_towards) := goodIn_app (goodIn_of _ (by decide +kernel)) ggX1_nearest_X0_towards
theorem dX1_nearest_0 : decode cX1_nearest 0 = .ok (.aconst_null, 1) := by decide +kernel
theorem dX1_nearest_1 : decode cX1_nearest 1 = .ok (.astore_n 2, 1) := by decide +kernel
theorem dX1_nearest_2 : decode cX1_nearest 2 = .ok (.aload_n 0, 1) := by decide +kernel
theorem dX1_nearest_3 : decode cX1_nearest 3 = .ok (.getfield 7, 3) := by decide +kernel
theorem dX1_nearest_6 : decode cX1_nearest 6 = .ok (.astore_n 3, 1) := by decide +kernel
theorem dX1_nearest_7 : decode cX1_nearest 7 = .ok (.aload_n 3, 1) := by decide +kernel
theorem dX1_nearest_8 : decode cX1_nearest 8 = .ok (.ifnull 14, 3) := by decide +kernel
theorem dX1_nearest_11 : decode cX1_nearest 11 = .ok (.aload_n 3, 1) := by decide +kernel
theorem dX1_nearest_12 : decode cX1_nearest 12 = .ok (.astore_n 2, 1) := by decide +kernel
theorem dX1_nearest_13 : decode cX1_nearest 13 = .ok (.aload_n 3, 1) := by decide +kernel
theorem dX1_nearest_14 : decode cX1_nearest 14 = .ok (.iload_n 1, 1) := by decide +kernel
theorem dX1_nearest_15 : decode cX1_nearest 15 = .ok (.invokevirtual 25, 3) := by decide +kernel
theorem dX1_nearest_18 : decode cX1_nearest 18 = .ok (.astore_n 3, 1) := by decide +kernel
theorem dX1_nearest_19 : decode cX1_nearest 19 = .ok (.goto (-12), 3) := by decide +kernel
theorem dX1_nearest_22 : decode cX1_nearest 22 = .ok (.aload_n 2, 1) := by decide +kernel
theorem dX1_nearest_23 : decode cX1_nearest 23 = .ok (.areturn, 1) := by decide +kernel
set_option maxRecDepth 20000 in
theorem ggX1_find_X1_nearest : GoodIn wsX1_find wsX1_nearest := goodIn_r _ [6, 7, 8, 9, 10, 11, 12, 13, 14, 15, 22, 16, 17, 18, 19, 20, 21] (by decide +kernel) (by decide +kernel)
set_option maxRecDepth 20000 in
theorem gX1_find_X1_nearest : GoodIn wsX1_find (wsV RX1 29 RX1 yX1_nearest wsX1_nearest) := goodIn_app (goodIn_of _ (by decide +kernel)) ggX1_find_X1_nearest
theorem dX1_find_0 : decode cX1_find 0 = .ok (.aload_n 0, 1) := by decide +kernel
theorem dX1_find_1 : decode cX1_find 1 = .ok (.iload_n 1, 1) := by decide +kernel
theorem dX1_find_2 : decode cX1_find 2 = .ok (.invokevirtual 29, 3) := by decide +kernel
theorem dX1_find_5 : decode cX1_find 5 = .ok (.astore_n 2, 1) := by decide +kernel
theorem dX1_find_6 : decode cX1_find 6 = .ok (.aload_n 2, 1) := by decide +kernel
theorem dX1_find_7 : decode cX1_find 7 = .ok (.ifnull 15, 3) := by decide +kernel
theorem dX1_find_10 : decode cX1_find 10 = .ok (.aload_n 2, 1) := by decide +kernel
theorem dX1_find_11 : decode cX1_find 11 = .ok (.getfield 32, 3) := by decide +kernel
theorem dX1_find_14 : decode cX1_find 14 = .ok (.iload_n 1, 1) := by decide +kernel
theorem dX1_find_15 : decode cX1_find 15 = .ok (.if_icmp .ne 7, 3) := by decide +kernel
theorem dX1_find_18 : decode cX1_find 18 = .ok (.aload_n 2, 1) := by decide +kernel
theorem dX1_find_19 : decode cX1_find 19 = .ok (.goto 4, 3) := by decide +kernel
theorem dX1_find_22 : decode cX1_find 22 = .ok (.aconst_null, 1) := by decide +kernel
theorem dX1_find_23 : decode cX1_find 23 = .ok (.areturn, 1) := by decide +kernel
set_option maxRecDepth 20000 in
theorem ggX1_hang_X1_nearest : GoodIn wsX1_hang wsX1_nearest := goodIn_r _ [6, 7, 8, 9, 10, 11, 12, 13, 14, 15, 36, 30, 31, 32, 33, 34, 35] (by decide +kernel) (by decide +kernel)
set_option maxRecDepth 20000 in
theorem gX1_hang_X1_nearest : GoodIn wsX1_hang (wsV RX1 29 RX1 yX1_nearest wsX1_nearest) := goodIn_app (goodIn_of _ (by decide +kernel)) ggX1_hang_X1_nearest
set_option maxRecDepth 20000 in
theorem ggX1_hang_X1_setTop : GoodIn wsX1_hang wsX1_setTop := goodIn_r _ [19, 7, 20, 36, 30, 31, 32, 33, 34, 35] (by decide +kernel) (by decide +kernel)
set_option maxRecDepth 20000 in
theorem gX1_hang_X1_setTop : GoodIn wsX1_hang (wsV RX1 36 RX1 yX1_setTop wsX1_setTop) := goodIn_app (goodIn_of _ (by decide +kernel)) ggX1_hang_X1_setTop
set_option maxRecDepth 20000 in
theorem ggX1_hang_X0_hangLeft : GoodIn wsX1_hang wsX0_hangLeft := goodIn_r _ [24, 14, 25, 30, 31, 32, 33, 34, 35] (by decide +kernel) (by decide +kernel)
set_option maxRecDepth 20000 in
theorem gX1_hang_X0_hangLeft : GoodIn wsX1_hang (wsV RX1 40 RX0 yX0_hangLeft wsX0_hangLeft) := goodIn_app (goodIn_of _ (by decide +kernel)) ggX1_hang_X0_hangLeft
set_option maxRecDepth 20000 in
theorem ggX1_hang_X0_hangRight : GoodIn wsX1_hang wsX0_hangRight := goodIn_r _ [29, 15, 25, 30, 31, 32, 33, 34, 35] (by decide +kernel) (by decide +kernel)
set_option maxRecDepth 20000 in
theorem gX1_hang_X0_hangRight : GoodIn wsX1_hang (wsV RX1 43 RX0 yX0_hangRight wsX0_hangRight) := goodIn_app (goodIn_of _ (by decide +kernel)) ggX1_hang_X0_hangRight
theorem dX1_hang_0 : decode cX1_hang 0 = .ok (.aload_n 0, 1) := by decide +kernel
theorem dX1_hang_1 : decode cX1_hang 1 = .ok (.aload_n 1, 1) := by decide +kernel
theorem dX1_hang_2 : decode cX1_hang 2 = .ok (.getfield 32, 3) := by decide +kernel
theorem dX1_hang_5 : decode cX1_hang 5 = .ok (.invokevirtual 29, 3) := by decide +kernel
theorem dX1_hang_8 : decode cX1_hang 8 = .ok (.astore_n 2, 1) := by decide +kernel
theorem dX1_hang_9 : decode cX1_hang 9 = .ok (.aload_n 2, 1) := by decide +kernel
theorem dX1_hang_10 : decode cX1_hang 10 = .ok (.ifnonnull 11, 3) := by decide +kernel
theorem dX1_hang_13 : decode cX1_hang 13 = .ok (.aload_n 0, 1) := by decide +kernel
theorem dX1_hang_14 : decode cX1_hang 14 = .ok (.aload_n 1, 1) := by decide +kernel
theorem dX1_hang_15 : decode cX1_hang 15 = .ok (.invokevirtual 36, 3) := by decide +kernel
theorem dX1_hang_18 : decode cX1_hang 18 = .ok (.goto 27, 3) := by decide +kernel
theorem dX1_hang_21 : decode cX1_hang 21 = .ok (.aload_n 1, 1) := by decide +kernel
theorem dX1_hang_22 : decode cX1_hang 22 = .ok (.getfield 32, 3) := by decide +kernel
theorem dX1_hang_25 : decode cX1_hang 25 = .ok (.aload_n 2, 1) := by decide +kernel
theorem dX1_hang_26 : decode cX1_hang 26 = .ok (.getfield 32, 3) := by decide +kernel
theorem dX1_hang_29 : decode cX1_hang 29 = .ok (.if_icmp .ge 11, 3) := by decide +kernel
theorem dX1_hang_32 : decode cX1_hang 32 = .ok (.aload_n 2, 1) := by decide +kernel
theorem dX1_hang_33 : decode cX1_hang 33 = .ok (.aload_n 1, 1) := by decide +kernel
theorem dX1_hang_34 : decode cX1_hang 34 = .ok (.invokevirtual 40, 3) := by decide +kernel
theorem dX1_hang_37 : decode cX1_hang 37 = .ok (.goto 8, 3) := by decide +kernel
theorem dX1_hang_40 : decode cX1_hang 40 = .ok (.aload_n 2, 1) := by decide +kernel
theorem dX1_hang_41 : decode cX1_hang 41 = .ok (.aload_n 1, 1) := by decide +kernel
theorem dX1_hang_42 : decode cX1_hang 42 = .ok (.invokevirtual 43, 3) := by decide +kernel
theorem dX1_hang_45 : decode cX1_hang 45 = .ok (.return_, 1) := by decide +kernel
set_option maxRecDepth 20000 in
theorem ggX1_bringUp_X0_depth : GoodIn wsX1_bringUp wsX0_depth := goodIn_r _ [7, 8, 28, 29, 30, 31, 32, 33] (by decide +kernel) (by decide +kernel)
set_option maxRecDepth 20000 in
theorem gX1_bringUp_X0_depth : GoodIn wsX1_bringUp (wsV RX1 46 RX0 yX0_depth wsX0_depth) := goodIn_app (goodIn_of _ (by decide +kernel)) ggX1_bringUp_X0_depth
set_option maxRecDepth 20000 in
theorem ggX1_bringUp_X0_isOnTheLeft : GoodIn wsX1_bringUp wsX0_isOnTheLeft := goodIn_r _ [12, 8, 13, 28, 29, 30, 31, 32, 33] (by decide +kernel) (by decide +kernel)
set_option maxRecDepth 20000 in
theorem gX1_bringUp_X0_isOnTheLeft : GoodIn wsX1_bringUp (wsV RX1 50 RX0 yX0_isOnTheLeft wsX0_isOnTheLeft) := goodIn_app (goodIn_of _ (by decide +kernel)) ggX1_bringUp_X0_isOnTheLeft
set_option maxRecDepth 20000 in
theorem ggX1_bringUp_X0_turn : GoodIn wsX1_bringUp wsX0_turn := goodIn_r _ [17, 8, 18, 13, 19, 10, 11, 6, 12, 20, 21, 22, 23, 24, 25, 26, 27, 28, 29, 30, 31, 32, 33] (by decide +kernel) (by decide +kernel)
set_option maxRecDepth 20000 in
theorem gX1_bringUp_X0_turn : GoodIn wsX1_bringUp (wsV RX1 54 RX0 yX0_turn wsX0_turn) := goodIn_app (goodIn_of _ (by decide +kernel)) ggX1_bringUp_X0_turn
theorem dX1_bringUp_0 : decode cX1_bringUp 0 = .ok (.aload_n 1, 1) := by decide +kernel
theorem dX1_bringUp_1 : decode cX1_bringUp 1 = .ok (.invokevirtual 46, 3) := by decide +kernel
theorem dX1_bringUp_4 : decode cX1_bringUp 4 = .ok (.istore_n 2, 1) := by decide +kernel
theorem dX1_bringUp_5 : decode cX1_bringUp 5 = .ok (.iload_n 2, 1) := by decide +kernel
theorem dX1_bringUp_6 : decode cX1_bringUp 6 = .ok (.istore_n 3, 1) := by decide +kernel
theorem dX1_bringUp_7 : decode cX1_bringUp 7 = .ok (.iload_n 3, 1) := by decide +kernel
theorem dX1_bringUp_8 : decode cX1_bringUp 8 = .ok (.ifCond .le 57, 3) := by decide +kernel
theorem dX1_bringUp_11 : decode cX1_bringUp 11 = .ok (.aload_n 1, 1) := by decide +kernel
theorem dX1_bringUp_12 : decode cX1_bringUp 12 = .ok (.getfield 13, 3) := by decide +kernel
theorem dX1_bringUp_15 : decode cX1_bringUp 15 = .ok (.astore 4, 2) := by decide +kernel
theorem dX1_bringUp_17 : decode cX1_bringUp 17 = .ok (.aload 4, 2) := by decide +kernel
theorem dX1_bringUp_19 : decode cX1_bringUp 19 = .ok (.ifnull 36, 3) := by decide +kernel
theorem dX1_bringUp_22 : decode cX1_bringUp 22 = .ok (.aload 4, 2) := by decide +kernel
theorem dX1_bringUp_24 : decode cX1_bringUp 24 = .ok (.getfield 13, 3) := by decide +kernel
theorem dX1_bringUp_27 : decode cX1_bringUp 27 = .ok (.ifnull 28, 3) := by decide +kernel
theorem dX1_bringUp_30 : decode cX1_bringUp 30 = .ok (.aload_n 1, 1) := by decide +kernel
theorem dX1_bringUp_31 : decode cX1_bringUp 31 = .ok (.invokevirtual 50, 3) := by decide +kernel
theorem dX1_bringUp_34 : decode cX1_bringUp 34 = .ok (.aload 4, 2) := by decide +kernel
theorem dX1_bringUp_36 : decode cX1_bringUp 36 = .ok (.invokevirtual 50, 3) := by decide +kernel
theorem dX1_bringUp_39 : decode cX1_bringUp 39 = .ok (.if_icmp .ne 8, 3) := by decide +kernel
theorem dX1_bringUp_42 : decode cX1_bringUp 42 = .ok (.aload 4, 2) := by decide +kernel
theorem dX1_bringUp_44 : decode cX1_bringUp 44 = .ok (.goto 4, 3) := by decide +kernel
theorem dX1_bringUp_47 : decode cX1_bringUp 47 = .ok (.aload_n 1, 1) := by decide +kernel
theorem dX1_bringUp_48 : decode cX1_bringUp 48 = .ok (.astore 5, 2) := by decide +kernel
theorem dX1_bringUp_50 : decode cX1_bringUp 50 = .ok (.aload 5, 2) := by decide +kernel
theorem dX1_bringUp_52 : decode cX1_bringUp 52 = .ok (.invokevirtual 54, 3) := by decide +kernel
theorem dX1_bringUp_55 : decode cX1_bringUp 55 = .ok (.aload_n 1, 1) := by decide +kernel
theorem dX1_bringUp_56 : decode cX1_bringUp 56 = .ok (.invokevirtual 54, 3) := by decide +kernel
theorem dX1_bringUp_59 : decode cX1_bringUp 59 = .ok (.iinc 3 (-2), 3) := by decide +kernel
theorem dX1_bringUp_62 : decode cX1_bringUp 62 = .ok (.goto (-55), 3) := by decide +kernel
theorem dX1_bringUp_65 : decode cX1_bringUp 65 = .ok (.aload_n 0, 1) := by decide +kernel
theorem dX1_bringUp_66 : decode cX1_bringUp 66 = .ok (.aload_n 1, 1) := by decide +kernel
theorem dX1_bringUp_67 : decode cX1_bringUp 67 = .ok (.putfield 7, 3) := by decide +kernel
theorem dX1_bringUp_70 : decode cX1_bringUp 70 = .ok (.iload_n 2, 1) := by decide +kernel
theorem dX1_bringUp_71 : decode cX1_bringUp 71 = .ok (.ireturn, 1) := by decide +kernel
set_option maxRecDepth 20000 in
theorem ggX1_at_X1_first : GoodIn wsX1_at wsX1_first := goodIn_r _ [5, 6, 7, 8, 9, 10, 11, 12, 20, 21, 22, 23, 24, 25, 26] (by decide +kernel) (by decide +kernel)
set_option maxRecDepth 20000 in
theorem gX1_at_X1_first : GoodIn wsX1_at (wsV RX1 57 RX1 yX1_first wsX1_first) := goodIn_app (goodIn_of _ (by decide +kernel)) ggX1_at_X1_first
set_option maxRecDepth 20000 in
theorem ggX1_at_X0_next : GoodIn wsX1_at wsX0_next := goodIn_r _ [16, 17, 18, 19, 8, 9, 10, 11, 12, 21, 22, 23, 24, 25, 26] (by decide +kernel) (by decide +kernel)
set_option maxRecDepth 20000 in
theorem gX1_at_X0_next : GoodIn wsX1_at (wsV RX1 60 RX0 yX0_next wsX0_next) := goodIn_app (goodIn_of _ (by decide +kernel)) ggX1_at_X0_next
theorem dX1_at_0 : decode cX1_at 0 = .ok (.iconst 0, 1) := by decide +kernel
theorem dX1_at_1 : decode cX1_at 1 = .ok (.istore_n 2, 1) := by decide +kernel
theorem dX1_at_2 : decode cX1_at 2 = .ok (.aload_n 0, 1) := by decide +kernel
theorem dX1_at_3 : decode cX1_at 3 = .ok (.invokevirtual 57, 3) := by decide +kernel
theorem dX1_at_6 : decode cX1_at 6 = .ok (.astore_n 3, 1) := by decide +kernel
theorem dX1_at_7 : decode cX1_at 7 = .ok (.aload_n 3, 1) := by decide +kernel
theorem dX1_at_8 : decode cX1_at 8 = .ok (.ifnull 21, 3) := by decide +kernel
theorem dX1_at_11 : decode cX1_at 11 = .ok (.iload_n 2, 1) := by decide +kernel
theorem dX1_at_12 : decode cX1_at 12 = .ok (.iload_n 1, 1) := by decide +kernel
theorem dX1_at_13 : decode cX1_at 13 = .ok (.if_icmp .ne 5, 3) := by decide +kernel
theorem dX1_at_16 : decode cX1_at 16 = .ok (.aload_n 3, 1) := by decide +kernel
theorem dX1_at_17 : decode cX1_at 17 = .ok (.areturn, 1) := by decide +kernel
theorem dX1_at_18 : decode cX1_at 18 = .ok (.iinc 2 1, 3) := by decide +kernel
theorem dX1_at_21 : decode cX1_at 21 = .ok (.aload_n 3, 1) := by decide +kernel
theorem dX1_at_22 : decode cX1_at 22 = .ok (.invokevirtual 60, 3) := by decide +kernel
theorem dX1_at_25 : decode cX1_at 25 = .ok (.astore_n 3, 1) := by decide +kernel
theorem dX1_at_26 : decode cX1_at 26 = .ok (.goto (-19), 3) := by decide +kernel
theorem dX1_at_29 : decode cX1_at 29 = .ok (.aconst_null, 1) := by decide +kernel
theorem dX1_at_30 : decode cX1_at 30 = .ok (.areturn, 1) := by decide +kernel
set_option maxRecDepth 20000 in
theorem ggX1_count_X0_countUnder : GoodIn wsX1_count wsX0_countUnder := goodIn_r _ [6, 7, 8, 9, 5, 10, 11, 12, 13, 14, 15, 16, 17, 18, 19, 20, 21, 23, 24, 25, 26, 27, 28] (by decide +kernel) (by decide +kernel)
set_option maxRecDepth 20000 in
theorem gX1_count_X0_countUnder : GoodIn wsX1_count (wsV RX1 63 RX0 yX0_countUnder wsX0_countUnder) := goodIn_app (goodIn_of _ (by decide +kernel)) ggX1_count_X0_countUnder
theorem dX1_count_0 : decode cX1_count 0 = .ok (.aload_n 0, 1) := by decide +kernel
theorem dX1_count_1 : decode cX1_count 1 = .ok (.getfield 7, 3) := by decide +kernel
theorem dX1_count_4 : decode cX1_count 4 = .ok (.ifnonnull 7, 3) := by decide +kernel
theorem dX1_count_7 : decode cX1_count 7 = .ok (.iconst 0, 1) := by decide +kernel
theorem dX1_count_8 : decode cX1_count 8 = .ok (.goto 12, 3) := by decide +kernel
theorem dX1_count_11 : decode cX1_count 11 = .ok (.aload_n 0, 1) := by decide +kernel
theorem dX1_count_12 : decode cX1_count 12 = .ok (.getfield 7, 3) := by decide +kernel
theorem dX1_count_15 : decode cX1_count 15 = .ok (.invokevirtual 63, 3) := by decide +kernel
theorem dX1_count_18 : decode cX1_count 18 = .ok (.iconst 1, 1) := by decide +kernel
theorem dX1_count_19 : decode cX1_count 19 = .ok (.iadd, 1) := by decide +kernel
theorem dX1_count_20 : decode cX1_count 20 = .ok (.ireturn, 1) := by decide +kernel
set_option maxRecDepth 20000 in
theorem ggX1_countBelow_X1_first : GoodIn wsX1_countBelow wsX1_first := goodIn_r _ [6, 7, 8, 9, 10, 11, 12, 13, 27, 21, 22, 23, 24, 25, 26] (by decide +kernel) (by decide +kernel)
set_option maxRecDepth 20000 in
theorem gX1_countBelow_X1_first : GoodIn wsX1_countBelow (wsV RX1 57 RX1 yX1_first wsX1_first) := goodIn_app (goodIn_of _ (by decide +kernel)) ggX1_countBelow_X1_first
set_option maxRecDepth 20000 in
theorem ggX1_countBelow_X0_next : GoodIn wsX1_countBelow wsX0_next := goodIn_r _ [17, 18, 19, 20, 9, 10, 11, 12, 13, 21, 22, 23, 24, 25, 26] (by decide +kernel) (by decide +kernel)
set_option maxRecDepth 20000 in
theorem gX1_countBelow_X0_next : GoodIn wsX1_countBelow (wsV RX1 60 RX0 yX0_next wsX0_next) := goodIn_app (goodIn_of _ (by decide +kernel)) ggX1_countBelow_X0_next
theorem dX1_countBelow_0 : decode cX1_countBelow 0 = .ok (.iconst 0, 1) := by decide +kernel
theorem dX1_countBelow_1 : decode cX1_countBelow 1 = .ok (.istore_n 2, 1) := by decide +kernel
theorem dX1_countBelow_2 : decode cX1_countBelow 2 = .ok (.aload_n 0, 1) := by decide +kernel
theorem dX1_countBelow_3 : decode cX1_countBelow 3 = .ok (.invokevirtual 57, 3) := by decide +kernel
theorem dX1_countBelow_6 : decode cX1_countBelow 6 = .ok (.astore_n 3, 1) := by decide +kernel
theorem dX1_countBelow_7 : decode cX1_countBelow 7 = .ok (.aload_n 3, 1) := by decide +kernel
theorem dX1_countBelow_8 : decode cX1_countBelow 8 = .ok (.ifnull 22, 3) := by decide +kernel
theorem dX1_countBelow_11 : decode cX1_countBelow 11 = .ok (.aload_n 3, 1) := by decide +kernel
theorem dX1_countBelow_12 : decode cX1_countBelow 12 = .ok (.getfield 32, 3) := by decide +kernel
theorem dX1_countBelow_15 : decode cX1_countBelow 15 = .ok (.iload_n 1, 1) := by decide +kernel
theorem dX1_countBelow_16 : decode cX1_countBelow 16 = .ok (.if_icmp .ge 14, 3) := by decide +kernel
theorem dX1_countBelow_19 : decode cX1_countBelow 19 = .ok (.iinc 2 1, 3) := by decide +kernel
theorem dX1_countBelow_22 : decode cX1_countBelow 22 = .ok (.aload_n 3, 1) := by decide +kernel
theorem dX1_countBelow_23 : decode cX1_countBelow 23 = .ok (.invokevirtual 60, 3) := by decide +kernel
theorem dX1_countBelow_26 : decode cX1_countBelow 26 = .ok (.astore_n 3, 1) := by decide +kernel
theorem dX1_countBelow_27 : decode cX1_countBelow 27 = .ok (.goto (-20), 3) := by decide +kernel
theorem dX1_countBelow_30 : decode cX1_countBelow 30 = .ok (.iload_n 2, 1) := by decide +kernel
theorem dX1_countBelow_31 : decode cX1_countBelow 31 = .ok (.ireturn, 1) := by decide +kernel
set_option maxRecDepth 20000 in
theorem ggX1_greatestBelow_X1_first : GoodIn wsX1_greatestBelow wsX1_first := goodIn_r _ [6, 7, 8, 9, 10, 11, 12, 13, 27, 21, 22, 23, 24, 25, 26] (by decide +kernel) (by decide +kernel)
set_option maxRecDepth 20000 in
theorem gX1_greatestBelow_X1_first : GoodIn wsX1_greatestBelow (wsV RX1 57 RX1 yX1_first wsX1_first) := goodIn_app (goodIn_of _ (by decide +kernel)) ggX1_greatestBelow_X1_first
set_option maxRecDepth 20000 in
theorem ggX1_greatestBelow_X0_next : GoodIn wsX1_greatestBelow wsX0_next := goodIn_r _ [17, 18, 19, 20, 9, 10, 11, 12, 13, 21, 22, 23, 24, 25, 26] (by decide +kernel) (by decide +kernel)
set_option maxRecDepth 20000 in
theorem gX1_greatestBelow_X0_next : GoodIn wsX1_greatestBelow (wsV RX1 60 RX0 yX0_next wsX0_next) := goodIn_app (goodIn_of _ (by decide +kernel)) ggX1_greatestBelow_X0_next
theorem dX1_greatestBelow_0 : decode cX1_greatestBelow 0 = .ok (.aconst_null, 1) := by decide +kernel
theorem dX1_greatestBelow_1 : decode cX1_greatestBelow 1 = .ok (.astore_n 2, 1) := by decide +kernel
theorem dX1_greatestBelow_2 : decode cX1_greatestBelow 2 = .ok (.aload_n 0, 1) := by decide +kernel
theorem dX1_greatestBelow_3 : decode cX1_greatestBelow 3 = .ok (.invokevirtual 57, 3) := by decide +kernel
theorem dX1_greatestBelow_6 : decode cX1_greatestBelow 6 = .ok (.astore_n 3, 1) := by decide +kernel
theorem dX1_greatestBelow_7 : decode cX1_greatestBelow 7 = .ok (.aload_n 3, 1) := by decide +kernel
theorem dX1_greatestBelow_8 : decode cX1_greatestBelow 8 = .ok (.ifnull 21, 3) := by decide +kernel
theorem dX1_greatestBelow_11 : decode cX1_greatestBelow 11 = .ok (.aload_n 3, 1) := by decide +kernel
theorem dX1_greatestBelow_12 : decode cX1_greatestBelow 12 = .ok (.getfield 32, 3) := by decide +kernel
theorem dX1_greatestBelow_15 : decode cX1_greatestBelow 15 = .ok (.iload_n 1, 1) := by decide +kernel
theorem dX1_greatestBelow_16 : decode cX1_greatestBelow 16 = .ok (.if_icmp .ge 13, 3) := by decide +kernel
theorem dX1_greatestBelow_19 : decode cX1_greatestBelow 19 = .ok (.aload_n 3, 1) := by decide +kernel
theorem dX1_greatestBelow_20 : decode cX1_greatestBelow 20 = .ok (.astore_n 2, 1) := by decide +kernel
theorem dX1_greatestBelow_21 : decode cX1_greatestBelow 21 = .ok (.aload_n 3, 1) := by decide +kernel
theorem dX1_greatestBelow_22 : decode cX1_greatestBelow 22 = .ok (.invokevirtual 60, 3) := by decide +kernel
theorem dX1_greatestBelow_25 : decode cX1_greatestBelow 25 = .ok (.astore_n 3, 1) := by decide +kernel
theorem dX1_greatestBelow_26 : decode cX1_greatestBelow 26 = .ok (.goto (-19), 3) := by decide +kernel
theorem dX1_greatestBelow_29 : decode cX1_greatestBelow 29 = .ok (.aload_n 2, 1) := by decide +kernel
theorem dX1_greatestBelow_30 : decode cX1_greatestBelow 30 = .ok (.areturn, 1) := by decide +kernel
set_option maxRecDepth 20000 in
theorem ggX1_levels_X1_first : GoodIn wsX1_levels wsX1_first := goodIn_r _ [9, 10, 11, 12, 13, 14, 15, 16, 28, 29, 30, 31, 32, 33, 34] (by decide +kernel) (by decide +kernel)
set_option maxRecDepth 20000 in
theorem gX1_levels_X1_first : GoodIn wsX1_levels (wsV RX1 57 RX1 yX1_first wsX1_first) := goodIn_app (goodIn_of _ (by decide +kernel)) ggX1_levels_X1_first
set_option maxRecDepth 20000 in
theorem ggX1_levels_X0_depth : GoodIn wsX1_levels wsX0_depth := goodIn_r _ [20, 21, 29, 30, 31, 32, 33, 34] (by decide +kernel) (by decide +kernel)
set_option maxRecDepth 20000 in
theorem gX1_levels_X0_depth : GoodIn wsX1_levels (wsV RX1 46 RX0 yX0_depth wsX0_depth) := goodIn_app (goodIn_of _ (by decide +kernel)) ggX1_levels_X0_depth
set_option maxRecDepth 20000 in
theorem ggX1_levels_X0_next : GoodIn wsX1_levels wsX0_next := goodIn_r _ [25, 26, 21, 27, 12, 13, 14, 15, 16, 29, 30, 31, 32, 33, 34] (by decide +kernel) (by decide +kernel)
set_option maxRecDepth 20000 in
theorem gX1_levels_X0_next : GoodIn wsX1_levels (wsV RX1 60 RX0 yX0_next wsX0_next) := goodIn_app (goodIn_of _ (by decide +kernel)) ggX1_levels_X0_next
theorem dX1_levels_0 : decode cX1_levels 0 = .ok (.iconst 0, 1) := by decide +kernel
theorem dX1_levels_1 : decode cX1_levels 1 = .ok (.istore_n 1, 1) := by decide +kernel
theorem dX1_levels_2 : decode cX1_levels 2 = .ok (.aload_n 0, 1) := by decide +kernel
theorem dX1_levels_3 : decode cX1_levels 3 = .ok (.invokevirtual 57, 3) := by decide +kernel
theorem dX1_levels_6 : decode cX1_levels 6 = .ok (.astore_n 2, 1) := by decide +kernel
theorem dX1_levels_7 : decode cX1_levels 7 = .ok (.aload_n 2, 1) := by decide +kernel
theorem dX1_levels_8 : decode cX1_levels 8 = .ok (.ifnull 22, 3) := by decide +kernel
theorem dX1_levels_11 : decode cX1_levels 11 = .ok (.iload_n 1, 1) := by decide +kernel
theorem dX1_levels_12 : decode cX1_levels 12 = .ok (.aload_n 2, 1) := by decide +kernel
theorem dX1_levels_13 : decode cX1_levels 13 = .ok (.invokevirtual 46, 3) := by decide +kernel
theorem dX1_levels_16 : decode cX1_levels 16 = .ok (.iconst 1, 1) := by decide +kernel
theorem dX1_levels_17 : decode cX1_levels 17 = .ok (.iadd, 1) := by decide +kernel
theorem dX1_levels_18 : decode cX1_levels 18 = .ok (.invokestatic 66, 3) := by decide +kernel
theorem dX1_levels_21 : decode cX1_levels 21 = .ok (.istore_n 1, 1) := by decide +kernel
theorem dX1_levels_22 : decode cX1_levels 22 = .ok (.aload_n 2, 1) := by decide +kernel
theorem dX1_levels_23 : decode cX1_levels 23 = .ok (.invokevirtual 60, 3) := by decide +kernel
theorem dX1_levels_26 : decode cX1_levels 26 = .ok (.astore_n 2, 1) := by decide +kernel
theorem dX1_levels_27 : decode cX1_levels 27 = .ok (.goto (-20), 3) := by decide +kernel
theorem dX1_levels_30 : decode cX1_levels 30 = .ok (.iload_n 1, 1) := by decide +kernel
theorem dX1_levels_31 : decode cX1_levels 31 = .ok (.ireturn, 1) := by decide +kernel
set_option maxRecDepth 20000 in
theorem ggX1_depthSum_X1_first : GoodIn wsX1_depthSum wsX1_first := goodIn_r _ [5, 6, 7, 8, 9, 10, 11, 12, 24, 25, 26, 27, 28, 29, 30] (by decide +kernel) (by decide +kernel)
set_option maxRecDepth 20000 in
theorem gX1_depthSum_X1_first : GoodIn wsX1_depthSum (wsV RX1 57 RX1 yX1_first wsX1_first) := goodIn_app (goodIn_of _ (by decide +kernel)) ggX1_depthSum_X1_first
set_option maxRecDepth 20000 in
theorem ggX1_depthSum_X0_depth : GoodIn wsX1_depthSum wsX0_depth := goodIn_r _ [16, 17, 25, 26, 27, 28, 29, 30] (by decide +kernel) (by decide +kernel)
set_option maxRecDepth 20000 in
theorem gX1_depthSum_X0_depth : GoodIn wsX1_depthSum (wsV RX1 46 RX0 yX0_depth wsX0_depth) := goodIn_app (goodIn_of _ (by decide +kernel)) ggX1_depthSum_X0_depth
set_option maxRecDepth 20000 in
theorem ggX1_depthSum_X0_next : GoodIn wsX1_depthSum wsX0_next := goodIn_r _ [21, 22, 17, 23, 8, 9, 10, 11, 12, 25, 26, 27, 28, 29, 30] (by decide +kernel) (by decide +kernel)
set_option maxRecDepth 20000 in
theorem gX1_depthSum_X0_next : GoodIn wsX1_depthSum (wsV RX1 60 RX0 yX0_next wsX0_next) := goodIn_app (goodIn_of _ (by decide +kernel)) ggX1_depthSum_X0_next
theorem dX1_depthSum_0 : decode cX1_depthSum 0 = .ok (.iconst 0, 1) := by decide +kernel
theorem dX1_depthSum_1 : decode cX1_depthSum 1 = .ok (.istore_n 1, 1) := by decide +kernel
theorem dX1_depthSum_2 : decode cX1_depthSum 2 = .ok (.aload_n 0, 1) := by decide +kernel
theorem dX1_depthSum_3 : decode cX1_depthSum 3 = .ok (.invokevirtual 57, 3) := by decide +kernel
theorem dX1_depthSum_6 : decode cX1_depthSum 6 = .ok (.astore_n 2, 1) := by decide +kernel
theorem dX1_depthSum_7 : decode cX1_depthSum 7 = .ok (.aload_n 2, 1) := by decide +kernel
theorem dX1_depthSum_8 : decode cX1_depthSum 8 = .ok (.ifnull 18, 3) := by decide +kernel
theorem dX1_depthSum_11 : decode cX1_depthSum 11 = .ok (.iload_n 1, 1) := by decide +kernel
theorem dX1_depthSum_12 : decode cX1_depthSum 12 = .ok (.aload_n 2, 1) := by decide +kernel
theorem dX1_depthSum_13 : decode cX1_depthSum 13 = .ok (.invokevirtual 46, 3) := by decide +kernel
theorem dX1_depthSum_16 : decode cX1_depthSum 16 = .ok (.iadd, 1) := by decide +kernel
theorem dX1_depthSum_17 : decode cX1_depthSum 17 = .ok (.istore_n 1, 1) := by decide +kernel
theorem dX1_depthSum_18 : decode cX1_depthSum 18 = .ok (.aload_n 2, 1) := by decide +kernel
theorem dX1_depthSum_19 : decode cX1_depthSum 19 = .ok (.invokevirtual 60, 3) := by decide +kernel
theorem dX1_depthSum_22 : decode cX1_depthSum 22 = .ok (.astore_n 2, 1) := by decide +kernel
theorem dX1_depthSum_23 : decode cX1_depthSum 23 = .ok (.goto (-16), 3) := by decide +kernel
theorem dX1_depthSum_26 : decode cX1_depthSum 26 = .ok (.iload_n 1, 1) := by decide +kernel
theorem dX1_depthSum_27 : decode cX1_depthSum 27 = .ok (.ireturn, 1) := by decide +kernel
set_option maxRecDepth 20000 in
theorem ggX1_leafCount_X1_first : GoodIn wsX1_leafCount wsX1_first := goodIn_r _ [7, 8, 9, 10, 11, 12, 13, 14, 28, 22, 23, 24, 25, 26, 27] (by decide +kernel) (by decide +kernel)
set_option maxRecDepth 20000 in
theorem gX1_leafCount_X1_first : GoodIn wsX1_leafCount (wsV RX1 57 RX1 yX1_first wsX1_first) := goodIn_app (goodIn_of _ (by decide +kernel)) ggX1_leafCount_X1_first
set_option maxRecDepth 20000 in
theorem ggX1_leafCount_X0_next : GoodIn wsX1_leafCount wsX0_next := goodIn_r _ [18, 19, 20, 21, 10, 11, 12, 13, 14, 22, 23, 24, 25, 26, 27] (by decide +kernel) (by decide +kernel)
set_option maxRecDepth 20000 in
theorem gX1_leafCount_X0_next : GoodIn wsX1_leafCount (wsV RX1 60 RX0 yX0_next wsX0_next) := goodIn_app (goodIn_of _ (by decide +kernel)) ggX1_leafCount_X0_next
theorem dX1_leafCount_0 : decode cX1_leafCount 0 = .ok (.iconst 0, 1) := by decide +kernel
theorem dX1_leafCount_1 : decode cX1_leafCount 1 = .ok (.istore_n 1, 1) := by decide +kernel
theorem dX1_leafCount_2 : decode cX1_leafCount 2 = .ok (.aload_n 0, 1) := by decide +kernel
theorem dX1_leafCount_3 : decode cX1_leafCount 3 = .ok (.invokevirtual 57, 3) := by decide +kernel
theorem dX1_leafCount_6 : decode cX1_leafCount 6 = .ok (.astore_n 2, 1) := by decide +kernel
theorem dX1_leafCount_7 : decode cX1_leafCount 7 = .ok (.aload_n 2, 1) := by decide +kernel
theorem dX1_leafCount_8 : decode cX1_leafCount 8 = .ok (.ifnull 28, 3) := by decide +kernel
theorem dX1_leafCount_11 : decode cX1_leafCount 11 = .ok (.aload_n 2, 1) := by decide +kernel
theorem dX1_leafCount_12 : decode cX1_leafCount 12 = .ok (.getfield 72, 3) := by decide +kernel
theorem dX1_leafCount_15 : decode cX1_leafCount 15 = .ok (.ifnonnull 13, 3) := by decide +kernel
theorem dX1_leafCount_18 : decode cX1_leafCount 18 = .ok (.aload_n 2, 1) := by decide +kernel
theorem dX1_leafCount_19 : decode cX1_leafCount 19 = .ok (.getfield 75, 3) := by decide +kernel
theorem dX1_leafCount_22 : decode cX1_leafCount 22 = .ok (.ifnonnull 6, 3) := by decide +kernel
theorem dX1_leafCount_25 : decode cX1_leafCount 25 = .ok (.iinc 1 1, 3) := by decide +kernel
theorem dX1_leafCount_28 : decode cX1_leafCount 28 = .ok (.aload_n 2, 1) := by decide +kernel
theorem dX1_leafCount_29 : decode cX1_leafCount 29 = .ok (.invokevirtual 60, 3) := by decide +kernel
theorem dX1_leafCount_32 : decode cX1_leafCount 32 = .ok (.astore_n 2, 1) := by decide +kernel
theorem dX1_leafCount_33 : decode cX1_leafCount 33 = .ok (.goto (-26), 3) := by decide +kernel
theorem dX1_leafCount_36 : decode cX1_leafCount 36 = .ok (.iload_n 1, 1) := by decide +kernel
theorem dX1_leafCount_37 : decode cX1_leafCount 37 = .ok (.ireturn, 1) := by decide +kernel
set_option maxRecDepth 20000 in
theorem ggX1_mostBitten_X1_first : GoodIn wsX1_mostBitten wsX1_first := goodIn_r _ [6, 7, 8, 9, 10, 11, 12, 13, 27, 21, 22, 23, 24, 25, 26] (by decide +kernel) (by decide +kernel)
set_option maxRecDepth 20000 in
theorem gX1_mostBitten_X1_first : GoodIn wsX1_mostBitten (wsV RX1 57 RX1 yX1_first wsX1_first) := goodIn_app (goodIn_of _ (by decide +kernel)) ggX1_mostBitten_X1_first
set_option maxRecDepth 20000 in
theorem ggX1_mostBitten_X0_next : GoodIn wsX1_mostBitten wsX0_next := goodIn_r _ [17, 18, 19, 20, 9, 10, 11, 12, 13, 21, 22, 23, 24, 25, 26] (by decide +kernel) (by decide +kernel)
set_option maxRecDepth 20000 in
theorem gX1_mostBitten_X0_next : GoodIn wsX1_mostBitten (wsV RX1 60 RX0 yX0_next wsX0_next) := goodIn_app (goodIn_of _ (by decide +kernel)) ggX1_mostBitten_X0_next
theorem dX1_mostBitten_0 : decode cX1_mostBitten 0 = .ok (.aconst_null, 1) := by decide +kernel
theorem dX1_mostBitten_1 : decode cX1_mostBitten 1 = .ok (.astore_n 1, 1) := by decide +kernel
theorem dX1_mostBitten_2 : decode cX1_mostBitten 2 = .ok (.aload_n 0, 1) := by decide +kernel
theorem dX1_mostBitten_3 : decode cX1_mostBitten 3 = .ok (.invokevirtual 57, 3) := by decide +kernel
theorem dX1_mostBitten_6 : decode cX1_mostBitten 6 = .ok (.astore_n 2, 1) := by decide +kernel
theorem dX1_mostBitten_7 : decode cX1_mostBitten 7 = .ok (.aload_n 2, 1) := by decide +kernel
theorem dX1_mostBitten_8 : decode cX1_mostBitten 8 = .ok (.ifnull 28, 3) := by decide +kernel
theorem dX1_mostBitten_11 : decode cX1_mostBitten 11 = .ok (.aload_n 1, 1) := by decide +kernel
theorem dX1_mostBitten_12 : decode cX1_mostBitten 12 = .ok (.ifnull 14, 3) := by decide +kernel
theorem dX1_mostBitten_15 : decode cX1_mostBitten 15 = .ok (.aload_n 2, 1) := by decide +kernel
theorem dX1_mostBitten_16 : decode cX1_mostBitten 16 = .ok (.getfield 78, 3) := by decide +kernel
theorem dX1_mostBitten_19 : decode cX1_mostBitten 19 = .ok (.aload_n 1, 1) := by decide +kernel
theorem dX1_mostBitten_20 : decode cX1_mostBitten 20 = .ok (.getfield 78, 3) := by decide +kernel
theorem dX1_mostBitten_23 : decode cX1_mostBitten 23 = .ok (.if_icmp .le 5, 3) := by decide +kernel
theorem dX1_mostBitten_26 : decode cX1_mostBitten 26 = .ok (.aload_n 2, 1) := by decide +kernel
theorem dX1_mostBitten_27 : decode cX1_mostBitten 27 = .ok (.astore_n 1, 1) := by decide +kernel
theorem dX1_mostBitten_28 : decode cX1_mostBitten 28 = .ok (.aload_n 2, 1) := by decide +kernel
theorem dX1_mostBitten_29 : decode cX1_mostBitten 29 = .ok (.invokevirtual 60, 3) := by decide +kernel
theorem dX1_mostBitten_32 : decode cX1_mostBitten 32 = .ok (.astore_n 2, 1) := by decide +kernel
theorem dX1_mostBitten_33 : decode cX1_mostBitten 33 = .ok (.goto (-26), 3) := by decide +kernel
theorem dX1_mostBitten_36 : decode cX1_mostBitten 36 = .ok (.aload_n 1, 1) := by decide +kernel
theorem dX1_mostBitten_37 : decode cX1_mostBitten 37 = .ok (.areturn, 1) := by decide +kernel
set_option maxRecDepth 20000 in
theorem ggX1_meeting_X0_towards : GoodIn wsX1_meeting wsX0_towards := goodIn_r _ [14, 15, 16, 17, 18, 19, 20, 21, 22, 23] (by decide +kernel) (by decide +kernel)
set_option maxRecDepth 20000 in
theorem gX1_meeting_X0_towards : GoodIn wsX1_meeting (wsV RX1 25 RX0 yX0_towards wsX0_towards) := goodIn_app (goodIn_of _ (by decide +kernel)) ggX1_meeting_X0_towards
theorem dX1_meeting_0 : decode cX1_meeting 0 = .ok (.aload_n 1, 1) := by decide +kernel
theorem dX1_meeting_1 : decode cX1_meeting 1 = .ok (.getfield 32, 3) := by decide +kernel
theorem dX1_meeting_4 : decode cX1_meeting 4 = .ok (.aload_n 2, 1) := by decide +kernel
theorem dX1_meeting_5 : decode cX1_meeting 5 = .ok (.getfield 32, 3) := by decide +kernel
theorem dX1_meeting_8 : decode cX1_meeting 8 = .ok (.invokestatic 81, 3) := by decide +kernel
theorem dX1_meeting_11 : decode cX1_meeting 11 = .ok (.istore_n 3, 1) := by decide +kernel
theorem dX1_meeting_12 : decode cX1_meeting 12 = .ok (.aload_n 1, 1) := by decide +kernel
theorem dX1_meeting_13 : decode cX1_meeting 13 = .ok (.getfield 32, 3) := by decide +kernel
theorem dX1_meeting_16 : decode cX1_meeting 16 = .ok (.aload_n 2, 1) := by decide +kernel
theorem dX1_meeting_17 : decode cX1_meeting 17 = .ok (.getfield 32, 3) := by decide +kernel
theorem dX1_meeting_20 : decode cX1_meeting 20 = .ok (.invokestatic 66, 3) := by decide +kernel
theorem dX1_meeting_23 : decode cX1_meeting 23 = .ok (.istore 4, 2) := by decide +kernel
theorem dX1_meeting_25 : decode cX1_meeting 25 = .ok (.aload_n 0, 1) := by decide +kernel
theorem dX1_meeting_26 : decode cX1_meeting 26 = .ok (.getfield 7, 3) := by decide +kernel
theorem dX1_meeting_29 : decode cX1_meeting 29 = .ok (.astore 5, 2) := by decide +kernel
theorem dX1_meeting_31 : decode cX1_meeting 31 = .ok (.aload 5, 2) := by decide +kernel
theorem dX1_meeting_33 : decode cX1_meeting 33 = .ok (.ifnull 36, 3) := by decide +kernel
theorem dX1_meeting_36 : decode cX1_meeting 36 = .ok (.aload 5, 2) := by decide +kernel
theorem dX1_meeting_38 : decode cX1_meeting 38 = .ok (.getfield 32, 3) := by decide +kernel
theorem dX1_meeting_41 : decode cX1_meeting 41 = .ok (.iload_n 3, 1) := by decide +kernel
theorem dX1_meeting_42 : decode cX1_meeting 42 = .ok (.if_icmp .lt 16, 3) := by decide +kernel
theorem dX1_meeting_45 : decode cX1_meeting 45 = .ok (.aload 5, 2) := by decide +kernel
theorem dX1_meeting_47 : decode cX1_meeting 47 = .ok (.getfield 32, 3) := by decide +kernel
theorem dX1_meeting_50 : decode cX1_meeting 50 = .ok (.iload 4, 2) := by decide +kernel
theorem dX1_meeting_52 : decode cX1_meeting 52 = .ok (.if_icmp .gt 6, 3) := by decide +kernel
theorem dX1_meeting_55 : decode cX1_meeting 55 = .ok (.aload 5, 2) := by decide +kernel
theorem dX1_meeting_57 : decode cX1_meeting 57 = .ok (.areturn, 1) := by decide +kernel
theorem dX1_meeting_58 : decode cX1_meeting 58 = .ok (.aload 5, 2) := by decide +kernel
theorem dX1_meeting_60 : decode cX1_meeting 60 = .ok (.iload_n 3, 1) := by decide +kernel
theorem dX1_meeting_61 : decode cX1_meeting 61 = .ok (.invokevirtual 25, 3) := by decide +kernel
theorem dX1_meeting_64 : decode cX1_meeting 64 = .ok (.astore 5, 2) := by decide +kernel
theorem dX1_meeting_66 : decode cX1_meeting 66 = .ok (.goto (-35), 3) := by decide +kernel
theorem dX1_meeting_69 : decode cX1_meeting 69 = .ok (.aconst_null, 1) := by decide +kernel
theorem dX1_meeting_70 : decode cX1_meeting 70 = .ok (.areturn, 1) := by decide +kernel
set_option maxRecDepth 20000 in
theorem ggX1_standInFor_X1_first : GoodIn wsX1_standInFor wsX1_first := goodIn_r _ [6, 1, 7, 8, 9, 10, 11, 12, 29, 30, 31, 32, 33, 34, 35] (by decide +kernel) (by decide +kernel)
set_option maxRecDepth 20000 in
theorem gX1_standInFor_X1_first : GoodIn wsX1_standInFor (wsV RX1 57 RX1 yX1_first wsX1_first) := goodIn_app (goodIn_of _ (by decide +kernel)) ggX1_standInFor_X1_first
set_option maxRecDepth 20000 in
theorem ggX1_standInFor_X0_linkStandIn : GoodIn wsX1_standInFor wsX0_linkStandIn := goodIn_r _ [16, 17, 18, 12, 19, 20, 21, 10, 22, 30, 31, 32, 33, 34, 35] (by decide +kernel) (by decide +kernel)
set_option maxRecDepth 20000 in
theorem gX1_standInFor_X0_linkStandIn : GoodIn wsX1_standInFor (wsV RX1 84 RX0 yX0_linkStandIn wsX0_linkStandIn) := goodIn_app (goodIn_of _ (by decide +kernel)) ggX1_standInFor_X0_linkStandIn
set_option maxRecDepth 20000 in
theorem ggX1_standInFor_X0_next : GoodIn wsX1_standInFor wsX0_next := goodIn_r _ [26, 19, 18, 27, 8, 9, 10, 11, 12, 30, 31, 32, 33, 34, 35] (by decide +kernel) (by decide +kernel)
set_option maxRecDepth 20000 in
theorem gX1_standInFor_X0_next : GoodIn wsX1_standInFor (wsV RX1 60 RX0 yX0_next wsX0_next) := goodIn_app (goodIn_of _ (by decide +kernel)) ggX1_standInFor_X0_next
set_option maxRecDepth 20000 in
theorem ggX1_standInFor_X0_standInOf : GoodIn wsX1_standInFor wsX0_standInOf := goodIn_r _ [22, 17, 30, 31, 32, 33, 34, 35] (by decide +kernel) (by decide +kernel)
set_option maxRecDepth 20000 in
theorem gX1_standInFor_X0_standInOf : GoodIn wsX1_standInFor (va_wsS RX1 87 yX0_standInOf wsX0_standInOf) := goodIn_app (goodIn_of _ (by decide +kernel)) ggX1_standInFor_X0_standInOf
theorem dX1_standInFor_0 : decode cX1_standInFor 0 = .ok (.aload_n 1, 1) := by decide +kernel
theorem dX1_standInFor_1 : decode cX1_standInFor 1 = .ok (.invokevirtual 57, 3) := by decide +kernel
theorem dX1_standInFor_4 : decode cX1_standInFor 4 = .ok (.astore_n 2, 1) := by decide +kernel
theorem dX1_standInFor_5 : decode cX1_standInFor 5 = .ok (.aload_n 2, 1) := by decide +kernel
theorem dX1_standInFor_6 : decode cX1_standInFor 6 = .ok (.ifnull 15, 3) := by decide +kernel
theorem dX1_standInFor_9 : decode cX1_standInFor 9 = .ok (.aload_n 2, 1) := by decide +kernel
theorem dX1_standInFor_10 : decode cX1_standInFor 10 = .ok (.invokevirtual 84, 3) := by decide +kernel
theorem dX1_standInFor_13 : decode cX1_standInFor 13 = .ok (.aload_n 2, 1) := by decide +kernel
theorem dX1_standInFor_14 : decode cX1_standInFor 14 = .ok (.invokevirtual 60, 3) := by decide +kernel
theorem dX1_standInFor_17 : decode cX1_standInFor 17 = .ok (.astore_n 2, 1) := by decide +kernel
theorem dX1_standInFor_18 : decode cX1_standInFor 18 = .ok (.goto (-13), 3) := by decide +kernel
theorem dX1_standInFor_21 : decode cX1_standInFor 21 = .ok (.aload_n 0, 1) := by decide +kernel
theorem dX1_standInFor_22 : decode cX1_standInFor 22 = .ok (.aload_n 1, 1) := by decide +kernel
theorem dX1_standInFor_23 : decode cX1_standInFor 23 = .ok (.getfield 7, 3) := by decide +kernel
theorem dX1_standInFor_26 : decode cX1_standInFor 26 = .ok (.invokestatic 87, 3) := by decide +kernel
theorem dX1_standInFor_29 : decode cX1_standInFor 29 = .ok (.putfield 7, 3) := by decide +kernel
theorem dX1_standInFor_32 : decode cX1_standInFor 32 = .ok (.return_, 1) := by decide +kernel
set_option maxRecDepth 20000 in
theorem ggX2_init_X1_init : GoodIn wsX2_init wsX1_init := goodIn_r _ [10, 11, 2, 3] (by decide +kernel) (by decide +kernel)
set_option maxRecDepth 20000 in
theorem gX2_init_X1_init_n15 : GoodIn wsX2_init (wsX1_init) := ggX2_init_X1_init
theorem dX2_init_0 : decode cX2_init 0 = .ok (.aload_n 0, 1) := by decide +kernel
theorem dX2_init_1 : decode cX2_init 1 = .ok (.invokespecial 1, 3) := by decide +kernel
theorem dX2_init_4 : decode cX2_init 4 = .ok (.aload_n 0, 1) := by decide +kernel
theorem dX2_init_5 : decode cX2_init 5 = .ok (.bipush 6, 2) := by decide +kernel
theorem dX2_init_7 : decode cX2_init 7 = .ok (.anewarray 9, 3) := by decide +kernel
theorem dX2_init_10 : decode cX2_init 10 = .ok (.putfield 11, 3) := by decide +kernel
theorem dX2_init_13 : decode cX2_init 13 = .ok (.aload_n 0, 1) := by decide +kernel
theorem dX2_init_14 : decode cX2_init 14 = .ok (.new 9, 3) := by decide +kernel
theorem dX2_init_17 : decode cX2_init 17 = .ok (.dup, 1) := by decide +kernel
theorem dX2_init_18 : decode cX2_init 18 = .ok (.invokespecial 15, 3) := by decide +kernel
theorem dX2_init_21 : decode cX2_init 21 = .ok (.putfield 16, 3) := by decide +kernel
theorem dX2_init_24 : decode cX2_init 24 = .ok (.iconst 0, 1) := by decide +kernel
theorem dX2_init_25 : decode cX2_init 25 = .ok (.istore_n 1, 1) := by decide +kernel
theorem dX2_init_26 : decode cX2_init 26 = .ok (.iload_n 1, 1) := by decide +kernel
theorem dX2_init_27 : decode cX2_init 27 = .ok (.aload_n 0, 1) := by decide +kernel
theorem dX2_init_28 : decode cX2_init 28 = .ok (.getfield 11, 3) := by decide +kernel
theorem dX2_init_31 : decode cX2_init 31 = .ok (.arraylength, 1) := by decide +kernel
theorem dX2_init_32 : decode cX2_init 32 = .ok (.if_icmp .ge 22, 3) := by decide +kernel
theorem dX2_init_35 : decode cX2_init 35 = .ok (.aload_n 0, 1) := by decide +kernel
theorem dX2_init_36 : decode cX2_init 36 = .ok (.getfield 11, 3) := by decide +kernel
theorem dX2_init_39 : decode cX2_init 39 = .ok (.iload_n 1, 1) := by decide +kernel
theorem dX2_init_40 : decode cX2_init 40 = .ok (.new 9, 3) := by decide +kernel
theorem dX2_init_43 : decode cX2_init 43 = .ok (.dup, 1) := by decide +kernel
theorem dX2_init_44 : decode cX2_init 44 = .ok (.invokespecial 15, 3) := by decide +kernel
theorem dX2_init_47 : decode cX2_init 47 = .ok (.aastore, 1) := by decide +kernel
theorem dX2_init_48 : decode cX2_init 48 = .ok (.iinc 1 1, 3) := by decide +kernel
theorem dX2_init_51 : decode cX2_init 51 = .ok (.goto (-25), 3) := by decide +kernel
theorem dX2_init_54 : decode cX2_init 54 = .ok (.return_, 1) := by decide +kernel
set_option maxRecDepth 20000 in
theorem ggX2_plant_X2_treeOf : GoodIn wsX2_plant wsX2_treeOf := goodIn_ca (goodIn_r _ [10, 11, 12, 13, 116, 117, 118] (by decide +kernel) (by decide +kernel)) (goodIn_sub (fun _ h => List.mem_cons_of_mem _ (List.mem_append_left _ (List.mem_append_right _ h))) (by decide +kernel))
set_option maxRecDepth 20000 in
theorem gX2_plant_X2_treeOf : GoodIn wsX2_plant (wsV RX2 20 RX2 yX2_treeOf wsX2_treeOf) := goodIn_app (goodIn_of _ (by decide +kernel)) ggX2_plant_X2_treeOf
set_option maxRecDepth 20000 in
theorem ggX2_plant_X2_checkSize : GoodIn wsX2_plant wsX2_checkSize := goodIn_ca (goodIn_r _ [16, 17, 18] (by decide +kernel) (by decide +kernel)) (goodIn_sub (fun _ h => List.mem_cons_of_mem _ (List.mem_append_right _ h)) (by decide +kernel))
set_option maxRecDepth 20000 in
theorem gX2_plant_X2_checkSize : GoodIn wsX2_plant (va_wsS RX2 24 yX2_checkSize wsX2_checkSize) := goodIn_app (goodIn_of _ (by decide +kernel)) ggX2_plant_X2_checkSize
set_option maxRecDepth 20000 in
theorem ggX2_plant_X2_apples : GoodIn wsX2_plant wsX2_apples := goodIn_r _ [22, 13, 23, 24, 25, 26, 27, 28, 29, 30, 31, 5, 32, 33, 34, 35, 36, 37, 38, 39, 40, 41, 42, 43, 44, 45, 46, 47, 116, 117, 118, 119, 110, 111, 112, 113, 114, 115] (by decide +kernel) (by decide +kernel)
set_option maxRecDepth 20000 in
theorem gX2_plant_X2_apples : GoodIn wsX2_plant (wsV RX2 28 RX2 yX2_apples wsX2_apples) := goodIn_app (goodIn_of _ (by decide +kernel)) ggX2_plant_X2_apples
set_option maxRecDepth 20000 in
theorem ggX2_plant_X1_find : GoodIn wsX2_plant wsX1_find := goodIn_r _ [51, 52, 53, 54, 55, 26, 56, 28, 57, 58, 59, 5, 60, 61, 42, 37, 110, 111, 112, 113, 114, 115, 119] (by decide +kernel) (by decide +kernel)
set_option maxRecDepth 20000 in
theorem gX2_plant_X1_find : GoodIn wsX2_plant (wsV RX2 39 RX1 yX1_find wsX1_find) := goodIn_app (goodIn_of _ (by decide +kernel)) ggX2_plant_X1_find
set_option maxRecDepth 20000 in
theorem ggX2_plant_X0_init : GoodIn wsX2_plant wsX0_init := goodIn_r _ [64, 65, 66, 67, 61, 68, 110, 111, 112, 113, 114, 115] (by decide +kernel) (by decide +kernel)
set_option maxRecDepth 20000 in
theorem gX2_plant_X0_init : GoodIn wsX2_plant (wsX0_init) := ggX2_plant_X0_init
set_option maxRecDepth 20000 in
theorem ggX2_plant_X1_hang : GoodIn wsX2_plant wsX1_hang := goodIn_r _ [72, 52, 53, 54, 55, 26, 56, 28, 57, 58, 59, 5, 60, 61, 42, 37, 73, 74, 75, 76, 77, 78, 79, 80, 81, 47, 82, 83, 84, 85, 110, 111, 112, 113, 114, 115, 119] (by decide +kernel) (by decide +kernel)
set_option maxRecDepth 20000 in
theorem gX2_plant_X1_hang : GoodIn wsX2_plant (wsV RX2 50 RX1 yX1_hang wsX1_hang) := goodIn_app (goodIn_of _ (by decide +kernel)) ggX2_plant_X1_hang
set_option maxRecDepth 20000 in
theorem ggX2_plant_X2_bringUp : GoodIn wsX2_plant wsX2_bringUp := goodIn_r _ [89, 90, 91, 92, 93, 26, 94, 77, 28, 95, 96, 97, 5, 98, 47, 99, 100, 101, 102, 42, 103, 104, 105, 106, 37, 107, 108, 79, 80, 81, 109, 83, 84, 85, 116, 117, 118, 110, 111, 112, 113, 114, 115, 119] (by decide +kernel) (by decide +kernel)
set_option maxRecDepth 20000 in
theorem gX2_plant_X2_bringUp : GoodIn wsX2_plant (wsV RX2 54 RX2 yX2_bringUp wsX2_bringUp) := goodIn_app (goodIn_of _ (by decide +kernel)) ggX2_plant_X2_bringUp
theorem dX2_plant_0 : decode cX2_plant 0 = .ok (.aload_n 0, 1) := by decide +kernel
theorem dX2_plant_1 : decode cX2_plant 1 = .ok (.iload_n 1, 1) := by decide +kernel
theorem dX2_plant_2 : decode cX2_plant 2 = .ok (.invokevirtual 20, 3) := by decide +kernel
theorem dX2_plant_5 : decode cX2_plant 5 = .ok (.astore_n 3, 1) := by decide +kernel
theorem dX2_plant_6 : decode cX2_plant 6 = .ok (.iload_n 2, 1) := by decide +kernel
theorem dX2_plant_7 : decode cX2_plant 7 = .ok (.invokestatic 24, 3) := by decide +kernel
theorem dX2_plant_10 : decode cX2_plant 10 = .ok (.aload_n 0, 1) := by decide +kernel
theorem dX2_plant_11 : decode cX2_plant 11 = .ok (.invokevirtual 28, 3) := by decide +kernel
theorem dX2_plant_14 : decode cX2_plant 14 = .ok (.bipush 40, 2) := by decide +kernel
theorem dX2_plant_16 : decode cX2_plant 16 = .ok (.if_icmp .lt 13, 3) := by decide +kernel
theorem dX2_plant_19 : decode cX2_plant 19 = .ok (.new 32, 3) := by decide +kernel
theorem dX2_plant_22 : decode cX2_plant 22 = .ok (.dup, 1) := by decide +kernel
theorem dX2_plant_23 : decode cX2_plant 23 = .ok (.ldc 34, 2) := by decide +kernel
theorem dX2_plant_25 : decode cX2_plant 25 = .ok (.invokespecial 36, 3) := by decide +kernel
theorem dX2_plant_28 : decode cX2_plant 28 = .ok (.athrow, 1) := by decide +kernel
theorem dX2_plant_29 : decode cX2_plant 29 = .ok (.aload_n 3, 1) := by decide +kernel
theorem dX2_plant_30 : decode cX2_plant 30 = .ok (.iload_n 2, 1) := by decide +kernel
theorem dX2_plant_31 : decode cX2_plant 31 = .ok (.invokevirtual 39, 3) := by decide +kernel
theorem dX2_plant_34 : decode cX2_plant 34 = .ok (.ifnull 13, 3) := by decide +kernel
theorem dX2_plant_37 : decode cX2_plant 37 = .ok (.new 32, 3) := by decide +kernel
theorem dX2_plant_40 : decode cX2_plant 40 = .ok (.dup, 1) := by decide +kernel
theorem dX2_plant_41 : decode cX2_plant 41 = .ok (.ldc 43, 2) := by decide +kernel
theorem dX2_plant_43 : decode cX2_plant 43 = .ok (.invokespecial 36, 3) := by decide +kernel
theorem dX2_plant_46 : decode cX2_plant 46 = .ok (.athrow, 1) := by decide +kernel
theorem dX2_plant_47 : decode cX2_plant 47 = .ok (.new 45, 3) := by decide +kernel
theorem dX2_plant_50 : decode cX2_plant 50 = .ok (.dup, 1) := by decide +kernel
theorem dX2_plant_51 : decode cX2_plant 51 = .ok (.iload_n 2, 1) := by decide +kernel
theorem dX2_plant_52 : decode cX2_plant 52 = .ok (.new 45, 3) := by decide +kernel
theorem dX2_plant_55 : decode cX2_plant 55 = .ok (.dup, 1) := by decide +kernel
theorem dX2_plant_56 : decode cX2_plant 56 = .ok (.iload_n 2, 1) := by decide +kernel
theorem dX2_plant_57 : decode cX2_plant 57 = .ok (.aconst_null, 1) := by decide +kernel
theorem dX2_plant_58 : decode cX2_plant 58 = .ok (.invokespecial 47, 3) := by decide +kernel
theorem dX2_plant_61 : decode cX2_plant 61 = .ok (.invokespecial 47, 3) := by decide +kernel
theorem dX2_plant_64 : decode cX2_plant 64 = .ok (.astore 4, 2) := by decide +kernel
theorem dX2_plant_66 : decode cX2_plant 66 = .ok (.aload_n 3, 1) := by decide +kernel
theorem dX2_plant_67 : decode cX2_plant 67 = .ok (.aload 4, 2) := by decide +kernel
theorem dX2_plant_69 : decode cX2_plant 69 = .ok (.invokevirtual 50, 3) := by decide +kernel
theorem dX2_plant_72 : decode cX2_plant 72 = .ok (.aload_n 0, 1) := by decide +kernel
theorem dX2_plant_73 : decode cX2_plant 73 = .ok (.aload_n 3, 1) := by decide +kernel
theorem dX2_plant_74 : decode cX2_plant 74 = .ok (.aload 4, 2) := by decide +kernel
theorem dX2_plant_76 : decode cX2_plant 76 = .ok (.invokevirtual 54, 3) := by decide +kernel
theorem dX2_plant_79 : decode cX2_plant 79 = .ok (.ireturn, 1) := by decide +kernel
set_option maxRecDepth 20000 in
theorem ggX2_eat_X2_treeOf : GoodIn wsX2_eat wsX2_treeOf := goodIn_ca (goodIn_r _ [6, 7, 8, 9, 72, 73, 74] (by decide +kernel) (by decide +kernel)) (goodIn_sub (fun _ h => List.mem_cons_of_mem _ (List.mem_append_left _ (List.mem_append_right _ h))) (by decide +kernel))
set_option maxRecDepth 20000 in
theorem gX2_eat_X2_treeOf : GoodIn wsX2_eat (wsV RX2 20 RX2 yX2_treeOf wsX2_treeOf) := goodIn_app (goodIn_of _ (by decide +kernel)) ggX2_eat_X2_treeOf
set_option maxRecDepth 20000 in
theorem ggX2_eat_X2_appleOf : GoodIn wsX2_eat wsX2_appleOf := goodIn_ca (goodIn_r _ [12, 13, 14, 15, 16, 17, 18, 19, 20, 21, 22, 23, 24, 25, 26, 27, 28, 29, 30, 31, 32, 33, 66, 67, 68, 69, 70, 71, 75] (by decide +kernel) (by decide +kernel)) (goodIn_sub (fun _ h => List.mem_cons_of_mem _ (List.mem_append_right _ h)) (by decide +kernel))
set_option maxRecDepth 20000 in
theorem gX2_eat_X2_appleOf : GoodIn wsX2_eat (va_wsS RX2 58 yX2_appleOf wsX2_appleOf) := goodIn_app (goodIn_of _ (by decide +kernel)) ggX2_eat_X2_appleOf
set_option maxRecDepth 20000 in
theorem ggX2_eat_X2_bringUp : GoodIn wsX2_eat wsX2_bringUp := goodIn_r _ [37, 38, 39, 40, 41, 18, 42, 43, 25, 44, 45, 46, 29, 47, 48, 49, 50, 51, 52, 32, 53, 54, 55, 56, 33, 57, 58, 59, 60, 61, 62, 63, 64, 65, 72, 73, 74, 66, 67, 68, 69, 70, 71, 75] (by decide +kernel) (by decide +kernel)
set_option maxRecDepth 20000 in
theorem gX2_eat_X2_bringUp : GoodIn wsX2_eat (wsV RX2 54 RX2 yX2_bringUp wsX2_bringUp) := goodIn_app (goodIn_of _ (by decide +kernel)) ggX2_eat_X2_bringUp
theorem dX2_eat_0 : decode cX2_eat 0 = .ok (.aload_n 0, 1) := by decide +kernel
theorem dX2_eat_1 : decode cX2_eat 1 = .ok (.iload_n 1, 1) := by decide +kernel
theorem dX2_eat_2 : decode cX2_eat 2 = .ok (.invokevirtual 20, 3) := by decide +kernel
theorem dX2_eat_5 : decode cX2_eat 5 = .ok (.astore_n 3, 1) := by decide +kernel
theorem dX2_eat_6 : decode cX2_eat 6 = .ok (.aload_n 3, 1) := by decide +kernel
theorem dX2_eat_7 : decode cX2_eat 7 = .ok (.iload_n 2, 1) := by decide +kernel
theorem dX2_eat_8 : decode cX2_eat 8 = .ok (.invokestatic 58, 3) := by decide +kernel
theorem dX2_eat_11 : decode cX2_eat 11 = .ok (.astore 4, 2) := by decide +kernel
theorem dX2_eat_13 : decode cX2_eat 13 = .ok (.aload 4, 2) := by decide +kernel
theorem dX2_eat_15 : decode cX2_eat 15 = .ok (.dup, 1) := by decide +kernel
theorem dX2_eat_16 : decode cX2_eat 16 = .ok (.getfield 62, 3) := by decide +kernel
theorem dX2_eat_19 : decode cX2_eat 19 = .ok (.iconst 1, 1) := by decide +kernel
theorem dX2_eat_20 : decode cX2_eat 20 = .ok (.iadd, 1) := by decide +kernel
theorem dX2_eat_21 : decode cX2_eat 21 = .ok (.putfield 62, 3) := by decide +kernel
theorem dX2_eat_24 : decode cX2_eat 24 = .ok (.aload_n 0, 1) := by decide +kernel
theorem dX2_eat_25 : decode cX2_eat 25 = .ok (.aload_n 3, 1) := by decide +kernel
theorem dX2_eat_26 : decode cX2_eat 26 = .ok (.aload 4, 2) := by decide +kernel
theorem dX2_eat_28 : decode cX2_eat 28 = .ok (.invokevirtual 54, 3) := by decide +kernel
theorem dX2_eat_31 : decode cX2_eat 31 = .ok (.ireturn, 1) := by decide +kernel
set_option maxRecDepth 20000 in
theorem ggX2_pick_X2_treeOf : GoodIn wsX2_pick wsX2_treeOf := goodIn_ca (goodIn_r _ [8, 9, 10, 11, 91, 92, 93] (by decide +kernel) (by decide +kernel)) (goodIn_sub (fun _ h => List.mem_cons_of_mem _ (List.mem_append_left _ (List.mem_append_right _ h))) (by decide +kernel))
set_option maxRecDepth 20000 in
theorem gX2_pick_X2_treeOf : GoodIn wsX2_pick (wsV RX2 20 RX2 yX2_treeOf wsX2_treeOf) := goodIn_app (goodIn_of _ (by decide +kernel)) ggX2_pick_X2_treeOf
set_option maxRecDepth 20000 in
theorem ggX2_pick_X2_appleOf : GoodIn wsX2_pick wsX2_appleOf := goodIn_ca (goodIn_r _ [14, 15, 16, 17, 18, 19, 20, 21, 22, 23, 24, 25, 26, 27, 28, 29, 30, 31, 32, 33, 34, 35, 85, 86, 87, 88, 89, 90, 94] (by decide +kernel) (by decide +kernel)) (goodIn_sub (fun _ h => List.mem_cons_of_mem _ (List.mem_append_right _ h)) (by decide +kernel))
set_option maxRecDepth 20000 in
theorem gX2_pick_X2_appleOf : GoodIn wsX2_pick (va_wsS RX2 58 yX2_appleOf wsX2_appleOf) := goodIn_app (goodIn_of _ (by decide +kernel)) ggX2_pick_X2_appleOf
set_option maxRecDepth 20000 in
theorem ggX2_pick_X2_bringUp : GoodIn wsX2_pick wsX2_bringUp := goodIn_r _ [39, 40, 41, 42, 43, 20, 44, 45, 27, 46, 47, 48, 31, 49, 50, 51, 52, 53, 54, 34, 55, 56, 57, 58, 35, 59, 60, 61, 62, 63, 64, 65, 66, 67, 91, 92, 93, 85, 86, 87, 88, 89, 90, 94] (by decide +kernel) (by decide +kernel)
set_option maxRecDepth 20000 in
theorem gX2_pick_X2_bringUp : GoodIn wsX2_pick (wsV RX2 54 RX2 yX2_bringUp wsX2_bringUp) := goodIn_app (goodIn_of _ (by decide +kernel)) ggX2_pick_X2_bringUp
set_option maxRecDepth 20000 in
theorem ggX2_pick_X1_setTop : GoodIn wsX2_pick wsX1_setTop := goodIn_r _ [71, 27, 45, 94, 85, 86, 87, 88, 89, 90] (by decide +kernel) (by decide +kernel)
set_option maxRecDepth 20000 in
theorem gX2_pick_X1_setTop : GoodIn wsX2_pick (wsV RX2 70 RX1 yX1_setTop wsX1_setTop) := goodIn_app (goodIn_of _ (by decide +kernel)) ggX2_pick_X1_setTop
set_option maxRecDepth 20000 in
theorem ggX2_pick_X2_append : GoodIn wsX2_pick wsX2_append := goodIn_r _ [75, 76, 77, 78, 20, 79, 27, 80, 81, 82, 31, 83, 35, 68, 69, 70, 71, 45, 36, 37, 38, 7, 39, 40, 41, 42, 43, 44, 46, 47, 48, 49, 50, 51, 52, 53, 54, 34, 55, 56, 57, 58, 59, 60, 61, 62, 63, 64, 65, 66, 67, 84, 94, 85, 86, 87, 88, 89, 90, 91, 92, 93] (by decide +kernel) (by decide +kernel)
set_option maxRecDepth 20000 in
theorem gX2_pick_X2_append : GoodIn wsX2_pick (wsV RX2 76 RX2 yX2_append wsX2_append) := goodIn_app (goodIn_of _ (by decide +kernel)) ggX2_pick_X2_append
theorem dX2_pick_0 : decode cX2_pick 0 = .ok (.aload_n 0, 1) := by decide +kernel
theorem dX2_pick_1 : decode cX2_pick 1 = .ok (.iload_n 1, 1) := by decide +kernel
theorem dX2_pick_2 : decode cX2_pick 2 = .ok (.invokevirtual 20, 3) := by decide +kernel
theorem dX2_pick_5 : decode cX2_pick 5 = .ok (.astore_n 3, 1) := by decide +kernel
theorem dX2_pick_6 : decode cX2_pick 6 = .ok (.aload_n 3, 1) := by decide +kernel
theorem dX2_pick_7 : decode cX2_pick 7 = .ok (.iload_n 2, 1) := by decide +kernel
theorem dX2_pick_8 : decode cX2_pick 8 = .ok (.invokestatic 58, 3) := by decide +kernel
theorem dX2_pick_11 : decode cX2_pick 11 = .ok (.astore 4, 2) := by decide +kernel
theorem dX2_pick_13 : decode cX2_pick 13 = .ok (.aload_n 0, 1) := by decide +kernel
theorem dX2_pick_14 : decode cX2_pick 14 = .ok (.aload_n 3, 1) := by decide +kernel
theorem dX2_pick_15 : decode cX2_pick 15 = .ok (.aload 4, 2) := by decide +kernel
theorem dX2_pick_17 : decode cX2_pick 17 = .ok (.invokevirtual 54, 3) := by decide +kernel
theorem dX2_pick_20 : decode cX2_pick 20 = .ok (.pop, 1) := by decide +kernel
theorem dX2_pick_21 : decode cX2_pick 21 = .ok (.aload_n 3, 1) := by decide +kernel
theorem dX2_pick_22 : decode cX2_pick 22 = .ok (.aload 4, 2) := by decide +kernel
theorem dX2_pick_24 : decode cX2_pick 24 = .ok (.getfield 66, 3) := by decide +kernel
theorem dX2_pick_27 : decode cX2_pick 27 = .ok (.invokevirtual 70, 3) := by decide +kernel
theorem dX2_pick_30 : decode cX2_pick 30 = .ok (.aload_n 0, 1) := by decide +kernel
theorem dX2_pick_31 : decode cX2_pick 31 = .ok (.aload_n 3, 1) := by decide +kernel
theorem dX2_pick_32 : decode cX2_pick 32 = .ok (.aload 4, 2) := by decide +kernel
theorem dX2_pick_34 : decode cX2_pick 34 = .ok (.getfield 73, 3) := by decide +kernel
theorem dX2_pick_37 : decode cX2_pick 37 = .ok (.invokevirtual 76, 3) := by decide +kernel
theorem dX2_pick_40 : decode cX2_pick 40 = .ok (.aload 4, 2) := by decide +kernel
theorem dX2_pick_42 : decode cX2_pick 42 = .ok (.getfield 62, 3) := by decide +kernel
theorem dX2_pick_45 : decode cX2_pick 45 = .ok (.ireturn, 1) := by decide +kernel
set_option maxRecDepth 20000 in
theorem ggX2_split_X2_treeOf : GoodIn wsX2_split wsX2_treeOf := goodIn_ca (goodIn_r _ [9, 10, 11, 12, 98, 99, 100] (by decide +kernel) (by decide +kernel)) (goodIn_sub (fun _ h => List.mem_cons_of_mem _ (List.mem_append_left _ (List.mem_append_right _ h))) (by decide +kernel))
set_option maxRecDepth 20000 in
theorem gX2_split_X2_treeOf : GoodIn wsX2_split (wsV RX2 20 RX2 yX2_treeOf wsX2_treeOf) := goodIn_app (goodIn_of _ (by decide +kernel)) ggX2_split_X2_treeOf
set_option maxRecDepth 20000 in
theorem ggX2_split_X2_checkSize : GoodIn wsX2_split wsX2_checkSize := goodIn_ca (goodIn_r _ [15, 16, 17] (by decide +kernel) (by decide +kernel)) (goodIn_sub (fun _ h => List.mem_cons_of_mem _ (List.mem_append_right _ h)) (by decide +kernel))
set_option maxRecDepth 20000 in
theorem gX2_split_X2_checkSize : GoodIn wsX2_split (va_wsS RX2 24 yX2_checkSize wsX2_checkSize) := goodIn_app (goodIn_of _ (by decide +kernel)) ggX2_split_X2_checkSize
set_option maxRecDepth 20000 in
theorem ggX2_split_X1_greatestBelow : GoodIn wsX2_split wsX1_greatestBelow := goodIn_r _ [22, 23, 24, 25, 26, 21, 27, 28, 29, 30, 31, 32, 33, 34, 35, 36, 37, 38, 39, 40, 41, 92, 93, 94, 95, 96, 97, 91] (by decide +kernel) (by decide +kernel)
set_option maxRecDepth 20000 in
theorem gX2_split_X1_greatestBelow : GoodIn wsX2_split (wsV RX2 87 RX1 yX1_greatestBelow wsX1_greatestBelow) := goodIn_app (goodIn_of _ (by decide +kernel)) ggX2_split_X1_greatestBelow
set_option maxRecDepth 20000 in
theorem ggX2_split_X1_setTop : GoodIn wsX2_split wsX1_setTop := goodIn_r _ [45, 28, 46, 91, 92, 93, 94, 95, 96, 97] (by decide +kernel) (by decide +kernel)
set_option maxRecDepth 20000 in
theorem gX2_split_X1_setTop : GoodIn wsX2_split (wsV RX2 70 RX1 yX1_setTop wsX1_setTop) := goodIn_app (goodIn_of _ (by decide +kernel)) ggX2_split_X1_setTop
set_option maxRecDepth 20000 in
theorem ggX2_split_X2_bringUp : GoodIn wsX2_split wsX2_bringUp := goodIn_r _ [50, 51, 52, 53, 54, 21, 55, 46, 28, 56, 57, 58, 32, 59, 40, 60, 61, 62, 63, 34, 64, 65, 66, 67, 39, 68, 69, 70, 71, 72, 73, 74, 75, 76, 98, 99, 100, 92, 93, 94, 95, 96, 97, 91] (by decide +kernel) (by decide +kernel)
set_option maxRecDepth 20000 in
theorem gX2_split_X2_bringUp : GoodIn wsX2_split (wsV RX2 54 RX2 yX2_bringUp wsX2_bringUp) := goodIn_app (goodIn_of _ (by decide +kernel)) ggX2_split_X2_bringUp
set_option maxRecDepth 20000 in
theorem ggX2_split_X0_hangRight : GoodIn wsX2_split wsX0_hangRight := goodIn_r _ [76, 39, 40, 92, 93, 94, 95, 96, 97] (by decide +kernel) (by decide +kernel)
set_option maxRecDepth 20000 in
theorem gX2_split_X0_hangRight : GoodIn wsX2_split (wsV RX2 90 RX0 yX0_hangRight wsX0_hangRight) := goodIn_app (goodIn_of _ (by decide +kernel)) ggX2_split_X0_hangRight
set_option maxRecDepth 20000 in
theorem ggX2_split_X1_count : GoodIn wsX2_split wsX1_count := goodIn_r _ [81, 28, 82, 83, 84, 32, 85, 86, 87, 88, 89, 39, 41, 30, 31, 33, 34, 90, 36, 37, 38, 40, 91, 92, 93, 94, 95, 96, 97] (by decide +kernel) (by decide +kernel)
set_option maxRecDepth 20000 in
theorem gX2_split_X1_count : GoodIn wsX2_split (wsV RX2 93 RX1 yX1_count wsX1_count) := goodIn_app (goodIn_of _ (by decide +kernel)) ggX2_split_X1_count
theorem dX2_split_0 : decode cX2_split 0 = .ok (.aload_n 0, 1) := by decide +kernel
theorem dX2_split_1 : decode cX2_split 1 = .ok (.iload_n 1, 1) := by decide +kernel
theorem dX2_split_2 : decode cX2_split 2 = .ok (.invokevirtual 20, 3) := by decide +kernel
theorem dX2_split_5 : decode cX2_split 5 = .ok (.astore 4, 2) := by decide +kernel
theorem dX2_split_7 : decode cX2_split 7 = .ok (.aload_n 0, 1) := by decide +kernel
theorem dX2_split_8 : decode cX2_split 8 = .ok (.iload_n 3, 1) := by decide +kernel
theorem dX2_split_9 : decode cX2_split 9 = .ok (.invokevirtual 20, 3) := by decide +kernel
theorem dX2_split_12 : decode cX2_split 12 = .ok (.astore 5, 2) := by decide +kernel
theorem dX2_split_14 : decode cX2_split 14 = .ok (.iload_n 2, 1) := by decide +kernel
theorem dX2_split_15 : decode cX2_split 15 = .ok (.invokestatic 24, 3) := by decide +kernel
theorem dX2_split_18 : decode cX2_split 18 = .ok (.aload 5, 2) := by decide +kernel
theorem dX2_split_20 : decode cX2_split 20 = .ok (.aload 4, 2) := by decide +kernel
theorem dX2_split_22 : decode cX2_split 22 = .ok (.if_acmp .ne 13, 3) := by decide +kernel
theorem dX2_split_25 : decode cX2_split 25 = .ok (.new 32, 3) := by decide +kernel
theorem dX2_split_28 : decode cX2_split 28 = .ok (.dup, 1) := by decide +kernel
theorem dX2_split_29 : decode cX2_split 29 = .ok (.ldc 80, 2) := by decide +kernel
theorem dX2_split_31 : decode cX2_split 31 = .ok (.invokespecial 36, 3) := by decide +kernel
theorem dX2_split_34 : decode cX2_split 34 = .ok (.athrow, 1) := by decide +kernel
theorem dX2_split_35 : decode cX2_split 35 = .ok (.aload 5, 2) := by decide +kernel
theorem dX2_split_37 : decode cX2_split 37 = .ok (.getfield 82, 3) := by decide +kernel
theorem dX2_split_40 : decode cX2_split 40 = .ok (.ifnull 13, 3) := by decide +kernel
theorem dX2_split_43 : decode cX2_split 43 = .ok (.new 32, 3) := by decide +kernel
theorem dX2_split_46 : decode cX2_split 46 = .ok (.dup, 1) := by decide +kernel
theorem dX2_split_47 : decode cX2_split 47 = .ok (.ldc 85, 2) := by decide +kernel
theorem dX2_split_49 : decode cX2_split 49 = .ok (.invokespecial 36, 3) := by decide +kernel
theorem dX2_split_52 : decode cX2_split 52 = .ok (.athrow, 1) := by decide +kernel
theorem dX2_split_53 : decode cX2_split 53 = .ok (.aload 4, 2) := by decide +kernel
theorem dX2_split_55 : decode cX2_split 55 = .ok (.iload_n 2, 1) := by decide +kernel
theorem dX2_split_56 : decode cX2_split 56 = .ok (.invokevirtual 87, 3) := by decide +kernel
theorem dX2_split_59 : decode cX2_split 59 = .ok (.astore 6, 2) := by decide +kernel
theorem dX2_split_61 : decode cX2_split 61 = .ok (.aload 6, 2) := by decide +kernel
theorem dX2_split_63 : decode cX2_split 63 = .ok (.ifnonnull 22, 3) := by decide +kernel
theorem dX2_split_66 : decode cX2_split 66 = .ok (.aload 5, 2) := by decide +kernel
theorem dX2_split_68 : decode cX2_split 68 = .ok (.aload 4, 2) := by decide +kernel
theorem dX2_split_70 : decode cX2_split 70 = .ok (.getfield 82, 3) := by decide +kernel
theorem dX2_split_73 : decode cX2_split 73 = .ok (.invokevirtual 70, 3) := by decide +kernel
theorem dX2_split_76 : decode cX2_split 76 = .ok (.aload 4, 2) := by decide +kernel
theorem dX2_split_78 : decode cX2_split 78 = .ok (.aconst_null, 1) := by decide +kernel
theorem dX2_split_79 : decode cX2_split 79 = .ok (.invokevirtual 70, 3) := by decide +kernel
theorem dX2_split_82 : decode cX2_split 82 = .ok (.goto 28, 3) := by decide +kernel
theorem dX2_split_85 : decode cX2_split 85 = .ok (.aload_n 0, 1) := by decide +kernel
theorem dX2_split_86 : decode cX2_split 86 = .ok (.aload 4, 2) := by decide +kernel
theorem dX2_split_88 : decode cX2_split 88 = .ok (.aload 6, 2) := by decide +kernel
theorem dX2_split_90 : decode cX2_split 90 = .ok (.invokevirtual 54, 3) := by decide +kernel
theorem dX2_split_93 : decode cX2_split 93 = .ok (.pop, 1) := by decide +kernel
theorem dX2_split_94 : decode cX2_split 94 = .ok (.aload 5, 2) := by decide +kernel
theorem dX2_split_96 : decode cX2_split 96 = .ok (.aload 6, 2) := by decide +kernel
theorem dX2_split_98 : decode cX2_split 98 = .ok (.getfield 73, 3) := by decide +kernel
theorem dX2_split_101 : decode cX2_split 101 = .ok (.invokevirtual 70, 3) := by decide +kernel
theorem dX2_split_104 : decode cX2_split 104 = .ok (.aload 6, 2) := by decide +kernel
theorem dX2_split_106 : decode cX2_split 106 = .ok (.aconst_null, 1) := by decide +kernel
theorem dX2_split_107 : decode cX2_split 107 = .ok (.invokevirtual 90, 3) := by decide +kernel
theorem dX2_split_110 : decode cX2_split 110 = .ok (.aload 5, 2) := by decide +kernel
theorem dX2_split_112 : decode cX2_split 112 = .ok (.invokevirtual 93, 3) := by decide +kernel
theorem dX2_split_115 : decode cX2_split 115 = .ok (.ireturn, 1) := by decide +kernel
set_option maxRecDepth 20000 in
theorem ggX2_join_X2_treeOf : GoodIn wsX2_join wsX2_treeOf := goodIn_ca (goodIn_r _ [8, 9, 10, 11, 93, 94, 95] (by decide +kernel) (by decide +kernel)) (goodIn_sub (fun _ h => List.mem_cons_of_mem _ (List.mem_append_right _ h)) (by decide +kernel))
set_option maxRecDepth 20000 in
theorem gX2_join_X2_treeOf : GoodIn wsX2_join (wsV RX2 20 RX2 yX2_treeOf wsX2_treeOf) := goodIn_app (goodIn_of _ (by decide +kernel)) ggX2_join_X2_treeOf
set_option maxRecDepth 20000 in
theorem ggX2_join_X2_mayJoin : GoodIn wsX2_join wsX2_mayJoin := goodIn_r _ [14, 15, 16, 17, 18, 19, 20, 21, 22, 23, 24, 25, 26, 27, 28, 29, 30, 31, 32, 33, 34, 35, 36, 96, 97, 98, 99, 100, 101, 92] (by decide +kernel) (by decide +kernel)
set_option maxRecDepth 20000 in
theorem gX2_join_X2_mayJoin : GoodIn wsX2_join (va_wsS RX2 96 yX2_mayJoin wsX2_mayJoin) := goodIn_app (goodIn_of _ (by decide +kernel)) ggX2_join_X2_mayJoin
set_option maxRecDepth 20000 in
theorem ggX2_join_X2_append : GoodIn wsX2_join wsX2_append := goodIn_r _ [40, 16, 17, 18, 19, 20, 21, 22, 23, 24, 25, 26, 27, 41, 42, 43, 44, 45, 46, 47, 48, 7, 49, 50, 51, 52, 53, 54, 55, 56, 57, 58, 59, 60, 61, 62, 63, 36, 64, 65, 66, 67, 68, 69, 70, 71, 72, 73, 74, 75, 76, 77, 92, 96, 97, 98, 99, 100, 101, 93, 94, 95] (by decide +kernel) (by decide +kernel)
set_option maxRecDepth 20000 in
theorem gX2_join_X2_append : GoodIn wsX2_join (wsV RX2 76 RX2 yX2_append wsX2_append) := goodIn_app (goodIn_of _ (by decide +kernel)) ggX2_join_X2_append
set_option maxRecDepth 20000 in
theorem ggX2_join_X1_setTop : GoodIn wsX2_join wsX1_setTop := goodIn_r _ [44, 21, 45, 92, 96, 97, 98, 99, 100, 101] (by decide +kernel) (by decide +kernel)
set_option maxRecDepth 20000 in
theorem gX2_join_X1_setTop : GoodIn wsX2_join (wsV RX2 70 RX1 yX1_setTop wsX1_setTop) := goodIn_app (goodIn_of _ (by decide +kernel)) ggX2_join_X1_setTop
set_option maxRecDepth 20000 in
theorem ggX2_join_X1_count : GoodIn wsX2_join wsX1_count := goodIn_r _ [81, 21, 82, 83, 84, 25, 85, 86, 23, 24, 26, 27, 87, 33, 34, 35, 36, 88, 89, 90, 91, 59, 92, 96, 97, 98, 99, 100, 101] (by decide +kernel) (by decide +kernel)
set_option maxRecDepth 20000 in
theorem gX2_join_X1_count : GoodIn wsX2_join (wsV RX2 93 RX1 yX1_count wsX1_count) := goodIn_app (goodIn_of _ (by decide +kernel)) ggX2_join_X1_count
theorem dX2_join_0 : decode cX2_join 0 = .ok (.aload_n 0, 1) := by decide +kernel
theorem dX2_join_1 : decode cX2_join 1 = .ok (.iload_n 1, 1) := by decide +kernel
theorem dX2_join_2 : decode cX2_join 2 = .ok (.invokevirtual 20, 3) := by decide +kernel
theorem dX2_join_5 : decode cX2_join 5 = .ok (.astore_n 3, 1) := by decide +kernel
theorem dX2_join_6 : decode cX2_join 6 = .ok (.aload_n 0, 1) := by decide +kernel
theorem dX2_join_7 : decode cX2_join 7 = .ok (.iload_n 2, 1) := by decide +kernel
theorem dX2_join_8 : decode cX2_join 8 = .ok (.invokevirtual 20, 3) := by decide +kernel
theorem dX2_join_11 : decode cX2_join 11 = .ok (.astore 4, 2) := by decide +kernel
theorem dX2_join_13 : decode cX2_join 13 = .ok (.aload_n 3, 1) := by decide +kernel
theorem dX2_join_14 : decode cX2_join 14 = .ok (.aload 4, 2) := by decide +kernel
theorem dX2_join_16 : decode cX2_join 16 = .ok (.invokestatic 96, 3) := by decide +kernel
theorem dX2_join_19 : decode cX2_join 19 = .ok (.ifCond .ne 13, 3) := by decide +kernel
theorem dX2_join_22 : decode cX2_join 22 = .ok (.new 32, 3) := by decide +kernel
theorem dX2_join_25 : decode cX2_join 25 = .ok (.dup, 1) := by decide +kernel
theorem dX2_join_26 : decode cX2_join 26 = .ok (.ldc 100, 2) := by decide +kernel
theorem dX2_join_28 : decode cX2_join 28 = .ok (.invokespecial 36, 3) := by decide +kernel
theorem dX2_join_31 : decode cX2_join 31 = .ok (.athrow, 1) := by decide +kernel
theorem dX2_join_32 : decode cX2_join 32 = .ok (.aload_n 0, 1) := by decide +kernel
theorem dX2_join_33 : decode cX2_join 33 = .ok (.aload_n 3, 1) := by decide +kernel
theorem dX2_join_34 : decode cX2_join 34 = .ok (.aload 4, 2) := by decide +kernel
theorem dX2_join_36 : decode cX2_join 36 = .ok (.getfield 82, 3) := by decide +kernel
theorem dX2_join_39 : decode cX2_join 39 = .ok (.invokevirtual 76, 3) := by decide +kernel
theorem dX2_join_42 : decode cX2_join 42 = .ok (.aload 4, 2) := by decide +kernel
theorem dX2_join_44 : decode cX2_join 44 = .ok (.aconst_null, 1) := by decide +kernel
theorem dX2_join_45 : decode cX2_join 45 = .ok (.invokevirtual 70, 3) := by decide +kernel
theorem dX2_join_48 : decode cX2_join 48 = .ok (.aload_n 3, 1) := by decide +kernel
theorem dX2_join_49 : decode cX2_join 49 = .ok (.invokevirtual 93, 3) := by decide +kernel
theorem dX2_join_52 : decode cX2_join 52 = .ok (.ireturn, 1) := by decide +kernel
set_option maxRecDepth 20000 in
theorem ggX2_apples_X1_count : GoodIn wsX2_apples wsX1_count := goodIn_r _ [6, 7, 8, 9, 10, 11, 12, 13, 14, 15, 16, 17, 18, 19, 20, 21, 22, 23, 24, 25, 26, 27, 31, 32, 33, 34, 35, 36, 37] (by decide +kernel) (by decide +kernel)
set_option maxRecDepth 20000 in
theorem gX2_apples_X1_count : GoodIn wsX2_apples (wsV RX2 93 RX1 yX1_count wsX1_count) := goodIn_app (goodIn_of _ (by decide +kernel)) ggX2_apples_X1_count
theorem dX2_apples_0 : decode cX2_apples 0 = .ok (.iconst 0, 1) := by decide +kernel
theorem dX2_apples_1 : decode cX2_apples 1 = .ok (.istore_n 1, 1) := by decide +kernel
theorem dX2_apples_2 : decode cX2_apples 2 = .ok (.aload_n 0, 1) := by decide +kernel
theorem dX2_apples_3 : decode cX2_apples 3 = .ok (.getfield 11, 3) := by decide +kernel
theorem dX2_apples_6 : decode cX2_apples 6 = .ok (.astore_n 2, 1) := by decide +kernel
theorem dX2_apples_7 : decode cX2_apples 7 = .ok (.aload_n 2, 1) := by decide +kernel
theorem dX2_apples_8 : decode cX2_apples 8 = .ok (.arraylength, 1) := by decide +kernel
theorem dX2_apples_9 : decode cX2_apples 9 = .ok (.istore_n 3, 1) := by decide +kernel
theorem dX2_apples_10 : decode cX2_apples 10 = .ok (.iconst 0, 1) := by decide +kernel
theorem dX2_apples_11 : decode cX2_apples 11 = .ok (.istore 4, 2) := by decide +kernel
theorem dX2_apples_13 : decode cX2_apples 13 = .ok (.iload 4, 2) := by decide +kernel
theorem dX2_apples_15 : decode cX2_apples 15 = .ok (.iload_n 3, 1) := by decide +kernel
theorem dX2_apples_16 : decode cX2_apples 16 = .ok (.if_icmp .ge 23, 3) := by decide +kernel
theorem dX2_apples_19 : decode cX2_apples 19 = .ok (.aload_n 2, 1) := by decide +kernel
theorem dX2_apples_20 : decode cX2_apples 20 = .ok (.iload 4, 2) := by decide +kernel
theorem dX2_apples_22 : decode cX2_apples 22 = .ok (.aaload, 1) := by decide +kernel
theorem dX2_apples_23 : decode cX2_apples 23 = .ok (.astore 5, 2) := by decide +kernel
theorem dX2_apples_25 : decode cX2_apples 25 = .ok (.iload_n 1, 1) := by decide +kernel
theorem dX2_apples_26 : decode cX2_apples 26 = .ok (.aload 5, 2) := by decide +kernel
theorem dX2_apples_28 : decode cX2_apples 28 = .ok (.invokevirtual 93, 3) := by decide +kernel
theorem dX2_apples_31 : decode cX2_apples 31 = .ok (.iadd, 1) := by decide +kernel
theorem dX2_apples_32 : decode cX2_apples 32 = .ok (.istore_n 1, 1) := by decide +kernel
theorem dX2_apples_33 : decode cX2_apples 33 = .ok (.iinc 4 1, 3) := by decide +kernel
theorem dX2_apples_36 : decode cX2_apples 36 = .ok (.goto (-23), 3) := by decide +kernel
theorem dX2_apples_39 : decode cX2_apples 39 = .ok (.iload_n 1, 1) := by decide +kernel
theorem dX2_apples_40 : decode cX2_apples 40 = .ok (.ireturn, 1) := by decide +kernel
theorem dX2_turnings_0 : decode cX2_turnings 0 = .ok (.aload_n 0, 1) := by decide +kernel
theorem dX2_turnings_1 : decode cX2_turnings 1 = .ok (.getfield 102, 3) := by decide +kernel
theorem dX2_turnings_4 : decode cX2_turnings 4 = .ok (.ireturn, 1) := by decide +kernel
set_option maxRecDepth 20000 in
theorem ggX2_sizeOf_X2_treeOf : GoodIn wsX2_sizeOf wsX2_treeOf := goodIn_ca (goodIn_r _ [5, 6, 7, 8, 35, 36, 37] (by decide +kernel) (by decide +kernel)) (goodIn_sub (fun _ h => List.mem_cons_of_mem _ (List.mem_append_right _ h)) (by decide +kernel))
set_option maxRecDepth 20000 in
theorem gX2_sizeOf_X2_treeOf : GoodIn wsX2_sizeOf (wsV RX2 20 RX2 yX2_treeOf wsX2_treeOf) := goodIn_app (goodIn_of _ (by decide +kernel)) ggX2_sizeOf_X2_treeOf
set_option maxRecDepth 20000 in
theorem ggX2_sizeOf_X1_count : GoodIn wsX2_sizeOf wsX1_count := goodIn_r _ [13, 14, 15, 16, 17, 18, 19, 20, 21, 22, 23, 24, 25, 26, 27, 28, 29, 30, 31, 32, 33, 34, 38, 39, 40, 41, 42, 43, 44] (by decide +kernel) (by decide +kernel)
set_option maxRecDepth 20000 in
theorem gX2_sizeOf_X1_count : GoodIn wsX2_sizeOf (wsV RX2 93 RX1 yX1_count wsX1_count) := goodIn_app (goodIn_of _ (by decide +kernel)) ggX2_sizeOf_X1_count
theorem dX2_sizeOf_0 : decode cX2_sizeOf 0 = .ok (.aload_n 0, 1) := by decide +kernel
theorem dX2_sizeOf_1 : decode cX2_sizeOf 1 = .ok (.iload_n 1, 1) := by decide +kernel
theorem dX2_sizeOf_2 : decode cX2_sizeOf 2 = .ok (.invokevirtual 20, 3) := by decide +kernel
theorem dX2_sizeOf_5 : decode cX2_sizeOf 5 = .ok (.invokevirtual 93, 3) := by decide +kernel
theorem dX2_sizeOf_8 : decode cX2_sizeOf 8 = .ok (.ireturn, 1) := by decide +kernel
set_option maxRecDepth 20000 in
theorem ggX2_top_X2_treeOf : GoodIn wsX2_top wsX2_treeOf := goodIn_ca (goodIn_r _ [6, 7, 8, 9, 15, 16, 17] (by decide +kernel) (by decide +kernel)) (goodIn_sub (fun _ h => List.mem_cons_of_mem _ (List.mem_append_right _ h)) (by decide +kernel))
set_option maxRecDepth 20000 in
theorem gX2_top_X2_treeOf : GoodIn wsX2_top (wsV RX2 20 RX2 yX2_treeOf wsX2_treeOf) := goodIn_app (goodIn_of _ (by decide +kernel)) ggX2_top_X2_treeOf
set_option maxRecDepth 20000 in
theorem ggX2_top_X2_sizeOrNone : GoodIn wsX2_top wsX2_sizeOrNone := goodIn_r _ [12, 13, 18, 19, 20, 21, 22, 23] (by decide +kernel) (by decide +kernel)
set_option maxRecDepth 20000 in
theorem gX2_top_X2_sizeOrNone : GoodIn wsX2_top (va_wsS RX2 105 yX2_sizeOrNone wsX2_sizeOrNone) := goodIn_app (goodIn_of _ (by decide +kernel)) ggX2_top_X2_sizeOrNone
theorem dX2_top_0 : decode cX2_top 0 = .ok (.aload_n 0, 1) := by decide +kernel
theorem dX2_top_1 : decode cX2_top 1 = .ok (.iload_n 1, 1) := by decide +kernel
theorem dX2_top_2 : decode cX2_top 2 = .ok (.invokevirtual 20, 3) := by decide +kernel
theorem dX2_top_5 : decode cX2_top 5 = .ok (.getfield 82, 3) := by decide +kernel
theorem dX2_top_8 : decode cX2_top 8 = .ok (.invokestatic 105, 3) := by decide +kernel
theorem dX2_top_11 : decode cX2_top 11 = .ok (.ireturn, 1) := by decide +kernel
set_option maxRecDepth 20000 in
theorem ggX2_height_X2_treeOf : GoodIn wsX2_height wsX2_treeOf := goodIn_ca (goodIn_r _ [5, 6, 7, 8, 40, 41, 42] (by decide +kernel) (by decide +kernel)) (goodIn_sub (fun _ h => List.mem_cons_of_mem _ (List.mem_append_right _ h)) (by decide +kernel))
set_option maxRecDepth 20000 in
theorem gX2_height_X2_treeOf : GoodIn wsX2_height (wsV RX2 20 RX2 yX2_treeOf wsX2_treeOf) := goodIn_app (goodIn_of _ (by decide +kernel)) ggX2_height_X2_treeOf
set_option maxRecDepth 20000 in
theorem ggX2_height_X1_levels : GoodIn wsX2_height wsX1_levels := goodIn_r _ [13, 14, 15, 16, 17, 18, 19, 20, 12, 21, 22, 23, 24, 25, 26, 27, 28, 29, 30, 31, 32, 33, 34, 35, 36, 37, 38, 39, 43, 44, 45, 46, 47, 48, 49] (by decide +kernel) (by decide +kernel)
set_option maxRecDepth 20000 in
theorem gX2_height_X1_levels : GoodIn wsX2_height (wsV RX2 109 RX1 yX1_levels wsX1_levels) := goodIn_app (goodIn_of _ (by decide +kernel)) ggX2_height_X1_levels
theorem dX2_height_0 : decode cX2_height 0 = .ok (.aload_n 0, 1) := by decide +kernel
theorem dX2_height_1 : decode cX2_height 1 = .ok (.iload_n 1, 1) := by decide +kernel
theorem dX2_height_2 : decode cX2_height 2 = .ok (.invokevirtual 20, 3) := by decide +kernel
theorem dX2_height_5 : decode cX2_height 5 = .ok (.invokevirtual 109, 3) := by decide +kernel
theorem dX2_height_8 : decode cX2_height 8 = .ok (.ireturn, 1) := by decide +kernel
set_option maxRecDepth 20000 in
theorem ggX2_leastHeight_X2_treeOf : GoodIn wsX2_leastHeight wsX2_treeOf := goodIn_ca (goodIn_r _ [5, 6, 7, 8, 35, 36, 37] (by decide +kernel) (by decide +kernel)) (goodIn_sub (fun _ h => List.mem_cons_of_mem _ (List.mem_append_right _ h)) (by decide +kernel))
set_option maxRecDepth 20000 in
theorem gX2_leastHeight_X2_treeOf : GoodIn wsX2_leastHeight (wsV RX2 20 RX2 yX2_treeOf wsX2_treeOf) := goodIn_app (goodIn_of _ (by decide +kernel)) ggX2_leastHeight_X2_treeOf
set_option maxRecDepth 20000 in
theorem ggX2_leastHeight_X1_count : GoodIn wsX2_leastHeight wsX1_count := goodIn_r _ [13, 14, 15, 16, 17, 18, 19, 20, 21, 22, 23, 24, 25, 26, 27, 28, 29, 30, 31, 32, 33, 34, 38, 39, 40, 41, 42, 43, 44] (by decide +kernel) (by decide +kernel)
set_option maxRecDepth 20000 in
theorem gX2_leastHeight_X1_count : GoodIn wsX2_leastHeight (wsV RX2 93 RX1 yX1_count wsX1_count) := goodIn_app (goodIn_of _ (by decide +kernel)) ggX2_leastHeight_X1_count
theorem dX2_leastHeight_0 : decode cX2_leastHeight 0 = .ok (.aload_n 0, 1) := by decide +kernel
theorem dX2_leastHeight_1 : decode cX2_leastHeight 1 = .ok (.iload_n 1, 1) := by decide +kernel
theorem dX2_leastHeight_2 : decode cX2_leastHeight 2 = .ok (.invokevirtual 20, 3) := by decide +kernel
theorem dX2_leastHeight_5 : decode cX2_leastHeight 5 = .ok (.invokevirtual 93, 3) := by decide +kernel
theorem dX2_leastHeight_8 : decode cX2_leastHeight 8 = .ok (.istore_n 2, 1) := by decide +kernel
theorem dX2_leastHeight_9 : decode cX2_leastHeight 9 = .ok (.iconst 0, 1) := by decide +kernel
theorem dX2_leastHeight_10 : decode cX2_leastHeight 10 = .ok (.istore_n 3, 1) := by decide +kernel
theorem dX2_leastHeight_11 : decode cX2_leastHeight 11 = .ok (.iconst 0, 1) := by decide +kernel
theorem dX2_leastHeight_12 : decode cX2_leastHeight 12 = .ok (.istore 4, 2) := by decide +kernel
theorem dX2_leastHeight_14 : decode cX2_leastHeight 14 = .ok (.iload 4, 2) := by decide +kernel
theorem dX2_leastHeight_16 : decode cX2_leastHeight 16 = .ok (.iload_n 2, 1) := by decide +kernel
theorem dX2_leastHeight_17 : decode cX2_leastHeight 17 = .ok (.if_icmp .ge 17, 3) := by decide +kernel
theorem dX2_leastHeight_20 : decode cX2_leastHeight 20 = .ok (.iinc 3 1, 3) := by decide +kernel
theorem dX2_leastHeight_23 : decode cX2_leastHeight 23 = .ok (.iconst 2, 1) := by decide +kernel
theorem dX2_leastHeight_24 : decode cX2_leastHeight 24 = .ok (.iload 4, 2) := by decide +kernel
theorem dX2_leastHeight_26 : decode cX2_leastHeight 26 = .ok (.imul, 1) := by decide +kernel
theorem dX2_leastHeight_27 : decode cX2_leastHeight 27 = .ok (.iconst 1, 1) := by decide +kernel
theorem dX2_leastHeight_28 : decode cX2_leastHeight 28 = .ok (.iadd, 1) := by decide +kernel
theorem dX2_leastHeight_29 : decode cX2_leastHeight 29 = .ok (.istore 4, 2) := by decide +kernel
theorem dX2_leastHeight_31 : decode cX2_leastHeight 31 = .ok (.goto (-17), 3) := by decide +kernel
theorem dX2_leastHeight_34 : decode cX2_leastHeight 34 = .ok (.iload_n 3, 1) := by decide +kernel
theorem dX2_leastHeight_35 : decode cX2_leastHeight 35 = .ok (.ireturn, 1) := by decide +kernel
set_option maxRecDepth 20000 in
theorem ggX2_depths_X2_treeOf : GoodIn wsX2_depths wsX2_treeOf := goodIn_ca (goodIn_r _ [5, 6, 7, 8, 36, 37, 38] (by decide +kernel) (by decide +kernel)) (goodIn_sub (fun _ h => List.mem_cons_of_mem _ (List.mem_append_right _ h)) (by decide +kernel))
set_option maxRecDepth 20000 in
theorem gX2_depths_X2_treeOf : GoodIn wsX2_depths (wsV RX2 20 RX2 yX2_treeOf wsX2_treeOf) := goodIn_app (goodIn_of _ (by decide +kernel)) ggX2_depths_X2_treeOf
set_option maxRecDepth 20000 in
theorem ggX2_depths_X1_depthSum : GoodIn wsX2_depths wsX1_depthSum := goodIn_r _ [13, 14, 15, 16, 12, 17, 18, 19, 20, 21, 22, 23, 24, 25, 26, 27, 28, 29, 30, 31, 32, 33, 34, 35, 39, 40, 41, 42, 43, 44, 45] (by decide +kernel) (by decide +kernel)
set_option maxRecDepth 20000 in
theorem gX2_depths_X1_depthSum : GoodIn wsX2_depths (wsV RX2 112 RX1 yX1_depthSum wsX1_depthSum) := goodIn_app (goodIn_of _ (by decide +kernel)) ggX2_depths_X1_depthSum
theorem dX2_depths_0 : decode cX2_depths 0 = .ok (.aload_n 0, 1) := by decide +kernel
theorem dX2_depths_1 : decode cX2_depths 1 = .ok (.iload_n 1, 1) := by decide +kernel
theorem dX2_depths_2 : decode cX2_depths 2 = .ok (.invokevirtual 20, 3) := by decide +kernel
theorem dX2_depths_5 : decode cX2_depths 5 = .ok (.invokevirtual 112, 3) := by decide +kernel
theorem dX2_depths_8 : decode cX2_depths 8 = .ok (.ireturn, 1) := by decide +kernel
set_option maxRecDepth 20000 in
theorem ggX2_smallest_X2_treeOf : GoodIn wsX2_smallest wsX2_treeOf := goodIn_ca (goodIn_r _ [5, 6, 7, 8, 25, 26, 27] (by decide +kernel) (by decide +kernel)) (goodIn_sub (fun _ h => List.mem_cons_of_mem _ (List.mem_append_right _ h)) (by decide +kernel))
set_option maxRecDepth 20000 in
theorem gX2_smallest_X2_treeOf : GoodIn wsX2_smallest (wsV RX2 20 RX2 yX2_treeOf wsX2_treeOf) := goodIn_app (goodIn_of _ (by decide +kernel)) ggX2_smallest_X2_treeOf
set_option maxRecDepth 20000 in
theorem ggX2_smallest_X1_first : GoodIn wsX2_smallest wsX1_first := goodIn_r _ [13, 14, 15, 16, 17, 18, 19, 20, 28, 29, 30, 31, 32, 33, 34] (by decide +kernel) (by decide +kernel)
set_option maxRecDepth 20000 in
theorem gX2_smallest_X1_first : GoodIn wsX2_smallest (wsV RX2 115 RX1 yX1_first wsX1_first) := goodIn_app (goodIn_of _ (by decide +kernel)) ggX2_smallest_X1_first
set_option maxRecDepth 20000 in
theorem ggX2_smallest_X2_sizeOrNone : GoodIn wsX2_smallest wsX2_sizeOrNone := goodIn_r _ [23, 24, 29, 30, 31, 32, 33, 34] (by decide +kernel) (by decide +kernel)
set_option maxRecDepth 20000 in
theorem gX2_smallest_X2_sizeOrNone : GoodIn wsX2_smallest (va_wsS RX2 105 yX2_sizeOrNone wsX2_sizeOrNone) := goodIn_app (goodIn_of _ (by decide +kernel)) ggX2_smallest_X2_sizeOrNone
theorem dX2_smallest_0 : decode cX2_smallest 0 = .ok (.aload_n 0, 1) := by decide +kernel
theorem dX2_smallest_1 : decode cX2_smallest 1 = .ok (.iload_n 1, 1) := by decide +kernel
theorem dX2_smallest_2 : decode cX2_smallest 2 = .ok (.invokevirtual 20, 3) := by decide +kernel
theorem dX2_smallest_5 : decode cX2_smallest 5 = .ok (.invokevirtual 115, 3) := by decide +kernel
theorem dX2_smallest_8 : decode cX2_smallest 8 = .ok (.invokestatic 105, 3) := by decide +kernel
theorem dX2_smallest_11 : decode cX2_smallest 11 = .ok (.ireturn, 1) := by decide +kernel
set_option maxRecDepth 20000 in
theorem ggX2_greatest_X2_treeOf : GoodIn wsX2_greatest wsX2_treeOf := goodIn_ca (goodIn_r _ [5, 6, 7, 8, 25, 26, 27] (by decide +kernel) (by decide +kernel)) (goodIn_sub (fun _ h => List.mem_cons_of_mem _ (List.mem_append_right _ h)) (by decide +kernel))
set_option maxRecDepth 20000 in
theorem gX2_greatest_X2_treeOf : GoodIn wsX2_greatest (wsV RX2 20 RX2 yX2_treeOf wsX2_treeOf) := goodIn_app (goodIn_of _ (by decide +kernel)) ggX2_greatest_X2_treeOf
set_option maxRecDepth 20000 in
theorem ggX2_greatest_X1_last : GoodIn wsX2_greatest wsX1_last := goodIn_r _ [13, 14, 15, 16, 17, 18, 19, 20, 28, 29, 30, 31, 32, 33, 34] (by decide +kernel) (by decide +kernel)
set_option maxRecDepth 20000 in
theorem gX2_greatest_X1_last : GoodIn wsX2_greatest (wsV RX2 119 RX1 yX1_last wsX1_last) := goodIn_app (goodIn_of _ (by decide +kernel)) ggX2_greatest_X1_last
set_option maxRecDepth 20000 in
theorem ggX2_greatest_X2_sizeOrNone : GoodIn wsX2_greatest wsX2_sizeOrNone := goodIn_r _ [23, 24, 29, 30, 31, 32, 33, 34] (by decide +kernel) (by decide +kernel)
set_option maxRecDepth 20000 in
theorem gX2_greatest_X2_sizeOrNone : GoodIn wsX2_greatest (va_wsS RX2 105 yX2_sizeOrNone wsX2_sizeOrNone) := goodIn_app (goodIn_of _ (by decide +kernel)) ggX2_greatest_X2_sizeOrNone
theorem dX2_greatest_0 : decode cX2_greatest 0 = .ok (.aload_n 0, 1) := by decide +kernel
theorem dX2_greatest_1 : decode cX2_greatest 1 = .ok (.iload_n 1, 1) := by decide +kernel
theorem dX2_greatest_2 : decode cX2_greatest 2 = .ok (.invokevirtual 20, 3) := by decide +kernel
theorem dX2_greatest_5 : decode cX2_greatest 5 = .ok (.invokevirtual 119, 3) := by decide +kernel
theorem dX2_greatest_8 : decode cX2_greatest 8 = .ok (.invokestatic 105, 3) := by decide +kernel
theorem dX2_greatest_11 : decode cX2_greatest 11 = .ok (.ireturn, 1) := by decide +kernel
set_option maxRecDepth 20000 in
theorem ggX2_inOrder_X2_treeOf : GoodIn wsX2_inOrder wsX2_treeOf := goodIn_ca (goodIn_r _ [8, 1, 2, 9, 39, 40, 41] (by decide +kernel) (by decide +kernel)) (goodIn_sub (fun _ h => List.mem_cons_of_mem _ (List.mem_append_right _ h)) (by decide +kernel))
set_option maxRecDepth 20000 in
theorem gX2_inOrder_X2_treeOf : GoodIn wsX2_inOrder (wsV RX2 20 RX2 yX2_treeOf wsX2_treeOf) := goodIn_app (goodIn_of _ (by decide +kernel)) ggX2_inOrder_X2_treeOf
set_option maxRecDepth 20000 in
theorem ggX2_inOrder_X1_at : GoodIn wsX2_inOrder wsX1_at := goodIn_r _ [14, 15, 16, 17, 13, 18, 19, 20, 21, 22, 23, 24, 25, 26, 27, 28, 29, 30, 31, 32, 42, 33, 34, 35, 36, 37, 38] (by decide +kernel) (by decide +kernel)
set_option maxRecDepth 20000 in
theorem gX2_inOrder_X1_at : GoodIn wsX2_inOrder (wsV RX2 122 RX1 yX1_at wsX1_at) := goodIn_app (goodIn_of _ (by decide +kernel)) ggX2_inOrder_X1_at
theorem dX2_inOrder_0 : decode cX2_inOrder 0 = .ok (.aload_n 0, 1) := by decide +kernel
theorem dX2_inOrder_1 : decode cX2_inOrder 1 = .ok (.iload_n 1, 1) := by decide +kernel
theorem dX2_inOrder_2 : decode cX2_inOrder 2 = .ok (.invokevirtual 20, 3) := by decide +kernel
theorem dX2_inOrder_5 : decode cX2_inOrder 5 = .ok (.iload_n 2, 1) := by decide +kernel
theorem dX2_inOrder_6 : decode cX2_inOrder 6 = .ok (.invokevirtual 122, 3) := by decide +kernel
theorem dX2_inOrder_9 : decode cX2_inOrder 9 = .ok (.astore_n 3, 1) := by decide +kernel
theorem dX2_inOrder_10 : decode cX2_inOrder 10 = .ok (.aload_n 3, 1) := by decide +kernel
theorem dX2_inOrder_11 : decode cX2_inOrder 11 = .ok (.ifnonnull 13, 3) := by decide +kernel
theorem dX2_inOrder_14 : decode cX2_inOrder 14 = .ok (.new 125, 3) := by decide +kernel
theorem dX2_inOrder_17 : decode cX2_inOrder 17 = .ok (.dup, 1) := by decide +kernel
theorem dX2_inOrder_18 : decode cX2_inOrder 18 = .ok (.ldc 127, 2) := by decide +kernel
theorem dX2_inOrder_20 : decode cX2_inOrder 20 = .ok (.invokespecial 129, 3) := by decide +kernel
theorem dX2_inOrder_23 : decode cX2_inOrder 23 = .ok (.athrow, 1) := by decide +kernel
theorem dX2_inOrder_24 : decode cX2_inOrder 24 = .ok (.aload_n 3, 1) := by decide +kernel
theorem dX2_inOrder_25 : decode cX2_inOrder 25 = .ok (.getfield 130, 3) := by decide +kernel
theorem dX2_inOrder_28 : decode cX2_inOrder 28 = .ok (.ireturn, 1) := by decide +kernel
set_option maxRecDepth 20000 in
theorem ggX2_leaves_X2_treeOf : GoodIn wsX2_leaves wsX2_treeOf := goodIn_ca (goodIn_r _ [5, 6, 7, 8, 34, 35, 36] (by decide +kernel) (by decide +kernel)) (goodIn_sub (fun _ h => List.mem_cons_of_mem _ (List.mem_append_right _ h)) (by decide +kernel))
set_option maxRecDepth 20000 in
theorem gX2_leaves_X2_treeOf : GoodIn wsX2_leaves (wsV RX2 20 RX2 yX2_treeOf wsX2_treeOf) := goodIn_app (goodIn_of _ (by decide +kernel)) ggX2_leaves_X2_treeOf
set_option maxRecDepth 20000 in
theorem ggX2_leaves_X1_leafCount : GoodIn wsX2_leaves wsX1_leafCount := goodIn_r _ [13, 14, 15, 16, 17, 18, 12, 19, 20, 21, 22, 23, 24, 25, 26, 27, 28, 29, 30, 31, 32, 33, 37, 38, 39, 40, 41, 42, 43] (by decide +kernel) (by decide +kernel)
set_option maxRecDepth 20000 in
theorem gX2_leaves_X1_leafCount : GoodIn wsX2_leaves (wsV RX2 133 RX1 yX1_leafCount wsX1_leafCount) := goodIn_app (goodIn_of _ (by decide +kernel)) ggX2_leaves_X1_leafCount
theorem dX2_leaves_0 : decode cX2_leaves 0 = .ok (.aload_n 0, 1) := by decide +kernel
theorem dX2_leaves_1 : decode cX2_leaves 1 = .ok (.iload_n 1, 1) := by decide +kernel
theorem dX2_leaves_2 : decode cX2_leaves 2 = .ok (.invokevirtual 20, 3) := by decide +kernel
theorem dX2_leaves_5 : decode cX2_leaves 5 = .ok (.invokevirtual 133, 3) := by decide +kernel
theorem dX2_leaves_8 : decode cX2_leaves 8 = .ok (.ireturn, 1) := by decide +kernel
set_option maxRecDepth 20000 in
theorem ggX2_has_X2_treeOf : GoodIn wsX2_has wsX2_treeOf := goodIn_ca (goodIn_r _ [5, 6, 7, 8, 28, 29, 30] (by decide +kernel) (by decide +kernel)) (goodIn_sub (fun _ h => List.mem_cons_of_mem _ (List.mem_append_right _ h)) (by decide +kernel))
set_option maxRecDepth 20000 in
theorem gX2_has_X2_treeOf : GoodIn wsX2_has (wsV RX2 20 RX2 yX2_treeOf wsX2_treeOf) := goodIn_app (goodIn_of _ (by decide +kernel)) ggX2_has_X2_treeOf
set_option maxRecDepth 20000 in
theorem ggX2_has_X1_find : GoodIn wsX2_has wsX1_find := goodIn_r _ [13, 14, 15, 16, 17, 12, 18, 19, 20, 21, 22, 23, 24, 25, 26, 27, 31, 32, 33, 34, 35, 36, 37] (by decide +kernel) (by decide +kernel)
set_option maxRecDepth 20000 in
theorem gX2_has_X1_find : GoodIn wsX2_has (wsV RX2 39 RX1 yX1_find wsX1_find) := goodIn_app (goodIn_of _ (by decide +kernel)) ggX2_has_X1_find
theorem dX2_has_0 : decode cX2_has 0 = .ok (.aload_n 0, 1) := by decide +kernel
theorem dX2_has_1 : decode cX2_has 1 = .ok (.iload_n 1, 1) := by decide +kernel
theorem dX2_has_2 : decode cX2_has 2 = .ok (.invokevirtual 20, 3) := by decide +kernel
theorem dX2_has_5 : decode cX2_has 5 = .ok (.iload_n 2, 1) := by decide +kernel
theorem dX2_has_6 : decode cX2_has 6 = .ok (.invokevirtual 39, 3) := by decide +kernel
theorem dX2_has_9 : decode cX2_has 9 = .ok (.ifnull 7, 3) := by decide +kernel
theorem dX2_has_12 : decode cX2_has 12 = .ok (.iconst 1, 1) := by decide +kernel
theorem dX2_has_13 : decode cX2_has 13 = .ok (.goto 4, 3) := by decide +kernel
theorem dX2_has_16 : decode cX2_has 16 = .ok (.iconst 0, 1) := by decide +kernel
theorem dX2_has_17 : decode cX2_has 17 = .ok (.ireturn, 1) := by decide +kernel
set_option maxRecDepth 20000 in
theorem ggX2_smaller_X2_treeOf : GoodIn wsX2_smaller wsX2_treeOf := goodIn_ca (goodIn_r _ [5, 6, 7, 8, 33, 34, 35] (by decide +kernel) (by decide +kernel)) (goodIn_sub (fun _ h => List.mem_cons_of_mem _ (List.mem_append_right _ h)) (by decide +kernel))
set_option maxRecDepth 20000 in
theorem gX2_smaller_X2_treeOf : GoodIn wsX2_smaller (wsV RX2 20 RX2 yX2_treeOf wsX2_treeOf) := goodIn_app (goodIn_of _ (by decide +kernel)) ggX2_smaller_X2_treeOf
set_option maxRecDepth 20000 in
theorem ggX2_smaller_X1_countBelow : GoodIn wsX2_smaller wsX1_countBelow := goodIn_r _ [13, 14, 15, 16, 17, 12, 18, 19, 20, 21, 22, 23, 24, 25, 26, 27, 28, 29, 30, 31, 32, 36, 37, 38, 39, 40, 41, 42] (by decide +kernel) (by decide +kernel)
set_option maxRecDepth 20000 in
theorem gX2_smaller_X1_countBelow : GoodIn wsX2_smaller (wsV RX2 136 RX1 yX1_countBelow wsX1_countBelow) := goodIn_app (goodIn_of _ (by decide +kernel)) ggX2_smaller_X1_countBelow
theorem dX2_smaller_0 : decode cX2_smaller 0 = .ok (.aload_n 0, 1) := by decide +kernel
theorem dX2_smaller_1 : decode cX2_smaller 1 = .ok (.iload_n 1, 1) := by decide +kernel
theorem dX2_smaller_2 : decode cX2_smaller 2 = .ok (.invokevirtual 20, 3) := by decide +kernel
theorem dX2_smaller_5 : decode cX2_smaller 5 = .ok (.iload_n 2, 1) := by decide +kernel
theorem dX2_smaller_6 : decode cX2_smaller 6 = .ok (.invokevirtual 136, 3) := by decide +kernel
theorem dX2_smaller_9 : decode cX2_smaller 9 = .ok (.ireturn, 1) := by decide +kernel
set_option maxRecDepth 20000 in
theorem ggX2_depthOf_X2_treeOf : GoodIn wsX2_depthOf wsX2_treeOf := goodIn_ca (goodIn_r _ [5, 6, 7, 8, 38, 39, 40] (by decide +kernel) (by decide +kernel)) (goodIn_sub (fun _ h => List.mem_cons_of_mem _ (List.mem_append_left _ (List.mem_append_right _ h))) (by decide +kernel))
set_option maxRecDepth 20000 in
theorem gX2_depthOf_X2_treeOf : GoodIn wsX2_depthOf (wsV RX2 20 RX2 yX2_treeOf wsX2_treeOf) := goodIn_app (goodIn_of _ (by decide +kernel)) ggX2_depthOf_X2_treeOf
set_option maxRecDepth 20000 in
theorem ggX2_depthOf_X2_appleOf : GoodIn wsX2_depthOf wsX2_appleOf := goodIn_ca (goodIn_r _ [11, 12, 13, 14, 15, 16, 17, 18, 19, 20, 21, 22, 23, 24, 25, 26, 27, 28, 29, 30, 31, 32, 41, 42, 43, 44, 45, 46, 47] (by decide +kernel) (by decide +kernel)) (goodIn_sub (fun _ h => List.mem_cons_of_mem _ (List.mem_append_right _ h)) (by decide +kernel))
set_option maxRecDepth 20000 in
theorem gX2_depthOf_X2_appleOf : GoodIn wsX2_depthOf (va_wsS RX2 58 yX2_appleOf wsX2_appleOf) := goodIn_app (goodIn_of _ (by decide +kernel)) ggX2_depthOf_X2_appleOf
set_option maxRecDepth 20000 in
theorem ggX2_depthOf_X0_depth : GoodIn wsX2_depthOf wsX0_depth := goodIn_r _ [36, 37, 41, 42, 43, 44, 45, 46] (by decide +kernel) (by decide +kernel)
set_option maxRecDepth 20000 in
theorem gX2_depthOf_X0_depth : GoodIn wsX2_depthOf (wsV RX2 140 RX0 yX0_depth wsX0_depth) := goodIn_app (goodIn_of _ (by decide +kernel)) ggX2_depthOf_X0_depth
theorem dX2_depthOf_0 : decode cX2_depthOf 0 = .ok (.aload_n 0, 1) := by decide +kernel
theorem dX2_depthOf_1 : decode cX2_depthOf 1 = .ok (.iload_n 1, 1) := by decide +kernel
theorem dX2_depthOf_2 : decode cX2_depthOf 2 = .ok (.invokevirtual 20, 3) := by decide +kernel
theorem dX2_depthOf_5 : decode cX2_depthOf 5 = .ok (.iload_n 2, 1) := by decide +kernel
theorem dX2_depthOf_6 : decode cX2_depthOf 6 = .ok (.invokestatic 58, 3) := by decide +kernel
theorem dX2_depthOf_9 : decode cX2_depthOf 9 = .ok (.invokevirtual 140, 3) := by decide +kernel
theorem dX2_depthOf_12 : decode cX2_depthOf 12 = .ok (.ireturn, 1) := by decide +kernel
set_option maxRecDepth 20000 in
theorem ggX2_above_X2_treeOf : GoodIn wsX2_above wsX2_treeOf := goodIn_ca (goodIn_r _ [6, 7, 8, 9, 44, 45, 46] (by decide +kernel) (by decide +kernel)) (goodIn_sub (fun _ h => List.mem_cons_of_mem _ (List.mem_append_left _ (List.mem_append_right _ h))) (by decide +kernel))
set_option maxRecDepth 20000 in
theorem gX2_above_X2_treeOf : GoodIn wsX2_above (wsV RX2 20 RX2 yX2_treeOf wsX2_treeOf) := goodIn_app (goodIn_of _ (by decide +kernel)) ggX2_above_X2_treeOf
set_option maxRecDepth 20000 in
theorem ggX2_above_X2_appleOf : GoodIn wsX2_above wsX2_appleOf := goodIn_ca (goodIn_r _ [12, 13, 14, 15, 16, 17, 18, 19, 20, 21, 22, 23, 24, 25, 26, 27, 28, 29, 30, 31, 32, 33, 38, 39, 40, 41, 42, 43, 47] (by decide +kernel) (by decide +kernel)) (goodIn_sub (fun _ h => List.mem_cons_of_mem _ (List.mem_append_right _ h)) (by decide +kernel))
set_option maxRecDepth 20000 in
theorem gX2_above_X2_appleOf : GoodIn wsX2_above (va_wsS RX2 58 yX2_appleOf wsX2_appleOf) := goodIn_app (goodIn_of _ (by decide +kernel)) ggX2_above_X2_appleOf
set_option maxRecDepth 20000 in
theorem ggX2_above_X2_sizeOrNone : GoodIn wsX2_above wsX2_sizeOrNone := goodIn_r _ [36, 37, 38, 39, 40, 41, 42, 43] (by decide +kernel) (by decide +kernel)
set_option maxRecDepth 20000 in
theorem gX2_above_X2_sizeOrNone : GoodIn wsX2_above (va_wsS RX2 105 yX2_sizeOrNone wsX2_sizeOrNone) := goodIn_app (goodIn_of _ (by decide +kernel)) ggX2_above_X2_sizeOrNone
theorem dX2_above_0 : decode cX2_above 0 = .ok (.aload_n 0, 1) := by decide +kernel
theorem dX2_above_1 : decode cX2_above 1 = .ok (.iload_n 1, 1) := by decide +kernel
theorem dX2_above_2 : decode cX2_above 2 = .ok (.invokevirtual 20, 3) := by decide +kernel
theorem dX2_above_5 : decode cX2_above 5 = .ok (.iload_n 2, 1) := by decide +kernel
theorem dX2_above_6 : decode cX2_above 6 = .ok (.invokestatic 58, 3) := by decide +kernel
theorem dX2_above_9 : decode cX2_above 9 = .ok (.getfield 143, 3) := by decide +kernel
theorem dX2_above_12 : decode cX2_above 12 = .ok (.invokestatic 105, 3) := by decide +kernel
theorem dX2_above_15 : decode cX2_above 15 = .ok (.ireturn, 1) := by decide +kernel
set_option maxRecDepth 20000 in
theorem ggX2_leftOf_X2_treeOf : GoodIn wsX2_leftOf wsX2_treeOf := goodIn_ca (goodIn_r _ [6, 7, 8, 9, 44, 45, 46] (by decide +kernel) (by decide +kernel)) (goodIn_sub (fun _ h => List.mem_cons_of_mem _ (List.mem_append_left _ (List.mem_append_right _ h))) (by decide +kernel))
set_option maxRecDepth 20000 in
theorem gX2_leftOf_X2_treeOf : GoodIn wsX2_leftOf (wsV RX2 20 RX2 yX2_treeOf wsX2_treeOf) := goodIn_app (goodIn_of _ (by decide +kernel)) ggX2_leftOf_X2_treeOf
set_option maxRecDepth 20000 in
theorem ggX2_leftOf_X2_appleOf : GoodIn wsX2_leftOf wsX2_appleOf := goodIn_ca (goodIn_r _ [12, 13, 14, 15, 16, 17, 18, 19, 20, 21, 22, 23, 24, 25, 26, 27, 28, 29, 30, 31, 32, 33, 38, 39, 40, 41, 42, 43, 47] (by decide +kernel) (by decide +kernel)) (goodIn_sub (fun _ h => List.mem_cons_of_mem _ (List.mem_append_right _ h)) (by decide +kernel))
set_option maxRecDepth 20000 in
theorem gX2_leftOf_X2_appleOf : GoodIn wsX2_leftOf (va_wsS RX2 58 yX2_appleOf wsX2_appleOf) := goodIn_app (goodIn_of _ (by decide +kernel)) ggX2_leftOf_X2_appleOf
set_option maxRecDepth 20000 in
theorem ggX2_leftOf_X2_sizeOrNone : GoodIn wsX2_leftOf wsX2_sizeOrNone := goodIn_r _ [36, 37, 38, 39, 40, 41, 42, 43] (by decide +kernel) (by decide +kernel)
set_option maxRecDepth 20000 in
theorem gX2_leftOf_X2_sizeOrNone : GoodIn wsX2_leftOf (va_wsS RX2 105 yX2_sizeOrNone wsX2_sizeOrNone) := goodIn_app (goodIn_of _ (by decide +kernel)) ggX2_leftOf_X2_sizeOrNone
theorem dX2_leftOf_0 : decode cX2_leftOf 0 = .ok (.aload_n 0, 1) := by decide +kernel
theorem dX2_leftOf_1 : decode cX2_leftOf 1 = .ok (.iload_n 1, 1) := by decide +kernel
theorem dX2_leftOf_2 : decode cX2_leftOf 2 = .ok (.invokevirtual 20, 3) := by decide +kernel
theorem dX2_leftOf_5 : decode cX2_leftOf 5 = .ok (.iload_n 2, 1) := by decide +kernel
theorem dX2_leftOf_6 : decode cX2_leftOf 6 = .ok (.invokestatic 58, 3) := by decide +kernel
theorem dX2_leftOf_9 : decode cX2_leftOf 9 = .ok (.getfield 66, 3) := by decide +kernel
theorem dX2_leftOf_12 : decode cX2_leftOf 12 = .ok (.invokestatic 105, 3) := by decide +kernel
theorem dX2_leftOf_15 : decode cX2_leftOf 15 = .ok (.ireturn, 1) := by decide +kernel
set_option maxRecDepth 20000 in
theorem ggX2_rightOf_X2_treeOf : GoodIn wsX2_rightOf wsX2_treeOf := goodIn_ca (goodIn_r _ [6, 7, 8, 9, 44, 45, 46] (by decide +kernel) (by decide +kernel)) (goodIn_sub (fun _ h => List.mem_cons_of_mem _ (List.mem_append_left _ (List.mem_append_right _ h))) (by decide +kernel))
set_option maxRecDepth 20000 in
theorem gX2_rightOf_X2_treeOf : GoodIn wsX2_rightOf (wsV RX2 20 RX2 yX2_treeOf wsX2_treeOf) := goodIn_app (goodIn_of _ (by decide +kernel)) ggX2_rightOf_X2_treeOf
set_option maxRecDepth 20000 in
theorem ggX2_rightOf_X2_appleOf : GoodIn wsX2_rightOf wsX2_appleOf := goodIn_ca (goodIn_r _ [12, 13, 14, 15, 16, 17, 18, 19, 20, 21, 22, 23, 24, 25, 26, 27, 28, 29, 30, 31, 32, 33, 38, 39, 40, 41, 42, 43, 47] (by decide +kernel) (by decide +kernel)) (goodIn_sub (fun _ h => List.mem_cons_of_mem _ (List.mem_append_right _ h)) (by decide +kernel))
set_option maxRecDepth 20000 in
theorem gX2_rightOf_X2_appleOf : GoodIn wsX2_rightOf (va_wsS RX2 58 yX2_appleOf wsX2_appleOf) := goodIn_app (goodIn_of _ (by decide +kernel)) ggX2_rightOf_X2_appleOf
set_option maxRecDepth 20000 in
theorem ggX2_rightOf_X2_sizeOrNone : GoodIn wsX2_rightOf wsX2_sizeOrNone := goodIn_r _ [36, 37, 38, 39, 40, 41, 42, 43] (by decide +kernel) (by decide +kernel)
set_option maxRecDepth 20000 in
theorem gX2_rightOf_X2_sizeOrNone : GoodIn wsX2_rightOf (va_wsS RX2 105 yX2_sizeOrNone wsX2_sizeOrNone) := goodIn_app (goodIn_of _ (by decide +kernel)) ggX2_rightOf_X2_sizeOrNone
theorem dX2_rightOf_0 : decode cX2_rightOf 0 = .ok (.aload_n 0, 1) := by decide +kernel
theorem dX2_rightOf_1 : decode cX2_rightOf 1 = .ok (.iload_n 1, 1) := by decide +kernel
theorem dX2_rightOf_2 : decode cX2_rightOf 2 = .ok (.invokevirtual 20, 3) := by decide +kernel
theorem dX2_rightOf_5 : decode cX2_rightOf 5 = .ok (.iload_n 2, 1) := by decide +kernel
theorem dX2_rightOf_6 : decode cX2_rightOf 6 = .ok (.invokestatic 58, 3) := by decide +kernel
theorem dX2_rightOf_9 : decode cX2_rightOf 9 = .ok (.getfield 73, 3) := by decide +kernel
theorem dX2_rightOf_12 : decode cX2_rightOf 12 = .ok (.invokestatic 105, 3) := by decide +kernel
theorem dX2_rightOf_15 : decode cX2_rightOf 15 = .ok (.ireturn, 1) := by decide +kernel
set_option maxRecDepth 20000 in
theorem ggX2_below_X2_treeOf : GoodIn wsX2_below wsX2_treeOf := goodIn_ca (goodIn_r _ [5, 6, 7, 8, 50, 51, 52] (by decide +kernel) (by decide +kernel)) (goodIn_sub (fun _ h => List.mem_cons_of_mem _ (List.mem_append_left _ (List.mem_append_right _ h))) (by decide +kernel))
set_option maxRecDepth 20000 in
theorem gX2_below_X2_treeOf : GoodIn wsX2_below (wsV RX2 20 RX2 yX2_treeOf wsX2_treeOf) := goodIn_app (goodIn_of _ (by decide +kernel)) ggX2_below_X2_treeOf
set_option maxRecDepth 20000 in
theorem ggX2_below_X2_appleOf : GoodIn wsX2_below wsX2_appleOf := goodIn_ca (goodIn_r _ [11, 12, 13, 14, 15, 16, 17, 18, 19, 20, 21, 22, 23, 24, 25, 26, 27, 28, 29, 30, 31, 32, 53, 54, 55, 56, 57, 58, 59] (by decide +kernel) (by decide +kernel)) (goodIn_sub (fun _ h => List.mem_cons_of_mem _ (List.mem_append_right _ h)) (by decide +kernel))
set_option maxRecDepth 20000 in
theorem gX2_below_X2_appleOf : GoodIn wsX2_below (va_wsS RX2 58 yX2_appleOf wsX2_appleOf) := goodIn_app (goodIn_of _ (by decide +kernel)) ggX2_below_X2_appleOf
set_option maxRecDepth 20000 in
theorem ggX2_below_X0_countUnder : GoodIn wsX2_below wsX0_countUnder := goodIn_r _ [36, 37, 38, 39, 28, 40, 32, 41, 42, 43, 44, 31, 45, 46, 47, 48, 49, 53, 54, 55, 56, 57, 58] (by decide +kernel) (by decide +kernel)
set_option maxRecDepth 20000 in
theorem gX2_below_X0_countUnder : GoodIn wsX2_below (wsV RX2 146 RX0 yX0_countUnder wsX0_countUnder) := goodIn_app (goodIn_of _ (by decide +kernel)) ggX2_below_X0_countUnder
theorem dX2_below_0 : decode cX2_below 0 = .ok (.aload_n 0, 1) := by decide +kernel
theorem dX2_below_1 : decode cX2_below 1 = .ok (.iload_n 1, 1) := by decide +kernel
theorem dX2_below_2 : decode cX2_below 2 = .ok (.invokevirtual 20, 3) := by decide +kernel
theorem dX2_below_5 : decode cX2_below 5 = .ok (.iload_n 2, 1) := by decide +kernel
theorem dX2_below_6 : decode cX2_below 6 = .ok (.invokestatic 58, 3) := by decide +kernel
theorem dX2_below_9 : decode cX2_below 9 = .ok (.invokevirtual 146, 3) := by decide +kernel
theorem dX2_below_12 : decode cX2_below 12 = .ok (.ireturn, 1) := by decide +kernel
set_option maxRecDepth 20000 in
theorem ggX2_eaten_X2_treeOf : GoodIn wsX2_eaten wsX2_treeOf := goodIn_ca (goodIn_r _ [6, 7, 8, 9, 40, 41, 42] (by decide +kernel) (by decide +kernel)) (goodIn_sub (fun _ h => List.mem_cons_of_mem _ (List.mem_append_left _ (List.mem_append_right _ h))) (by decide +kernel))
set_option maxRecDepth 20000 in
theorem gX2_eaten_X2_treeOf : GoodIn wsX2_eaten (wsV RX2 20 RX2 yX2_treeOf wsX2_treeOf) := goodIn_app (goodIn_of _ (by decide +kernel)) ggX2_eaten_X2_treeOf
set_option maxRecDepth 20000 in
theorem ggX2_eaten_X2_appleOf : GoodIn wsX2_eaten wsX2_appleOf := goodIn_ca (goodIn_r _ [12, 13, 14, 15, 16, 17, 18, 19, 20, 21, 22, 23, 24, 25, 26, 27, 28, 29, 30, 31, 32, 33, 34, 35, 36, 37, 38, 39, 43] (by decide +kernel) (by decide +kernel)) (goodIn_sub (fun _ h => List.mem_cons_of_mem _ (List.mem_append_right _ h)) (by decide +kernel))
set_option maxRecDepth 20000 in
theorem gX2_eaten_X2_appleOf : GoodIn wsX2_eaten (va_wsS RX2 58 yX2_appleOf wsX2_appleOf) := goodIn_app (goodIn_of _ (by decide +kernel)) ggX2_eaten_X2_appleOf
theorem dX2_eaten_0 : decode cX2_eaten 0 = .ok (.aload_n 0, 1) := by decide +kernel
theorem dX2_eaten_1 : decode cX2_eaten 1 = .ok (.iload_n 1, 1) := by decide +kernel
theorem dX2_eaten_2 : decode cX2_eaten 2 = .ok (.invokevirtual 20, 3) := by decide +kernel
theorem dX2_eaten_5 : decode cX2_eaten 5 = .ok (.iload_n 2, 1) := by decide +kernel
theorem dX2_eaten_6 : decode cX2_eaten 6 = .ok (.invokestatic 58, 3) := by decide +kernel
theorem dX2_eaten_9 : decode cX2_eaten 9 = .ok (.getfield 62, 3) := by decide +kernel
theorem dX2_eaten_12 : decode cX2_eaten 12 = .ok (.ireturn, 1) := by decide +kernel
set_option maxRecDepth 20000 in
theorem ggX2_favourite_X2_treeOf : GoodIn wsX2_favourite wsX2_treeOf := goodIn_ca (goodIn_r _ [5, 6, 7, 8, 37, 38, 39] (by decide +kernel) (by decide +kernel)) (goodIn_sub (fun _ h => List.mem_cons_of_mem _ (List.mem_append_right _ h)) (by decide +kernel))
set_option maxRecDepth 20000 in
theorem gX2_favourite_X2_treeOf : GoodIn wsX2_favourite (wsV RX2 20 RX2 yX2_treeOf wsX2_treeOf) := goodIn_app (goodIn_of _ (by decide +kernel)) ggX2_favourite_X2_treeOf
set_option maxRecDepth 20000 in
theorem ggX2_favourite_X1_mostBitten : GoodIn wsX2_favourite wsX1_mostBitten := goodIn_r _ [13, 14, 15, 16, 17, 12, 18, 19, 20, 21, 22, 23, 24, 25, 26, 27, 28, 29, 30, 31, 32, 40, 41, 42, 43, 44, 45, 46] (by decide +kernel) (by decide +kernel)
set_option maxRecDepth 20000 in
theorem gX2_favourite_X1_mostBitten : GoodIn wsX2_favourite (wsV RX2 149 RX1 yX1_mostBitten wsX1_mostBitten) := goodIn_app (goodIn_of _ (by decide +kernel)) ggX2_favourite_X1_mostBitten
set_option maxRecDepth 20000 in
theorem ggX2_favourite_X2_sizeOrNone : GoodIn wsX2_favourite wsX2_sizeOrNone := goodIn_r _ [35, 36, 40, 41, 42, 43, 44, 45] (by decide +kernel) (by decide +kernel)
set_option maxRecDepth 20000 in
theorem gX2_favourite_X2_sizeOrNone : GoodIn wsX2_favourite (va_wsS RX2 105 yX2_sizeOrNone wsX2_sizeOrNone) := goodIn_app (goodIn_of _ (by decide +kernel)) ggX2_favourite_X2_sizeOrNone
theorem dX2_favourite_0 : decode cX2_favourite 0 = .ok (.aload_n 0, 1) := by decide +kernel
theorem dX2_favourite_1 : decode cX2_favourite 1 = .ok (.iload_n 1, 1) := by decide +kernel
theorem dX2_favourite_2 : decode cX2_favourite 2 = .ok (.invokevirtual 20, 3) := by decide +kernel
theorem dX2_favourite_5 : decode cX2_favourite 5 = .ok (.invokevirtual 149, 3) := by decide +kernel
theorem dX2_favourite_8 : decode cX2_favourite 8 = .ok (.invokestatic 105, 3) := by decide +kernel
theorem dX2_favourite_11 : decode cX2_favourite 11 = .ok (.ireturn, 1) := by decide +kernel
set_option maxRecDepth 20000 in
theorem ggX2_meet_X2_treeOf : GoodIn wsX2_meet wsX2_treeOf := goodIn_ca (goodIn_r _ [5, 6, 7, 8, 48, 49, 50] (by decide +kernel) (by decide +kernel)) (goodIn_sub (fun _ h => List.mem_cons_of_mem _ (List.mem_append_left _ (List.mem_append_right _ h))) (by decide +kernel))
set_option maxRecDepth 20000 in
theorem gX2_meet_X2_treeOf : GoodIn wsX2_meet (wsV RX2 20 RX2 yX2_treeOf wsX2_treeOf) := goodIn_app (goodIn_of _ (by decide +kernel)) ggX2_meet_X2_treeOf
set_option maxRecDepth 20000 in
theorem ggX2_meet_X2_appleOf : GoodIn wsX2_meet wsX2_appleOf := goodIn_ca (goodIn_r _ [11, 12, 13, 14, 15, 16, 17, 18, 19, 20, 21, 22, 23, 24, 25, 26, 27, 28, 29, 30, 31, 32, 51, 52, 53, 54, 55, 56, 57] (by decide +kernel) (by decide +kernel)) (goodIn_sub (fun _ h => List.mem_cons_of_mem _ (List.mem_append_right _ h)) (by decide +kernel))
set_option maxRecDepth 20000 in
theorem gX2_meet_X2_appleOf : GoodIn wsX2_meet (va_wsS RX2 58 yX2_appleOf wsX2_appleOf) := goodIn_app (goodIn_of _ (by decide +kernel)) ggX2_meet_X2_appleOf
set_option maxRecDepth 20000 in
theorem ggX2_meet_X1_meeting : GoodIn wsX2_meet wsX1_meeting := goodIn_r _ [36, 19, 37, 38, 39, 40, 41, 42, 43, 24, 25, 26, 27, 28, 29, 30, 31, 32, 51, 52, 53, 54, 55, 56, 57] (by decide +kernel) (by decide +kernel)
set_option maxRecDepth 20000 in
theorem gX2_meet_X1_meeting : GoodIn wsX2_meet (wsV RX2 152 RX1 yX1_meeting wsX1_meeting) := goodIn_app (goodIn_of _ (by decide +kernel)) ggX2_meet_X1_meeting
set_option maxRecDepth 20000 in
theorem ggX2_meet_X2_sizeOrNone : GoodIn wsX2_meet wsX2_sizeOrNone := goodIn_r _ [46, 47, 51, 52, 53, 54, 55, 56] (by decide +kernel) (by decide +kernel)
set_option maxRecDepth 20000 in
theorem gX2_meet_X2_sizeOrNone : GoodIn wsX2_meet (va_wsS RX2 105 yX2_sizeOrNone wsX2_sizeOrNone) := goodIn_app (goodIn_of _ (by decide +kernel)) ggX2_meet_X2_sizeOrNone
theorem dX2_meet_0 : decode cX2_meet 0 = .ok (.aload_n 0, 1) := by decide +kernel
theorem dX2_meet_1 : decode cX2_meet 1 = .ok (.iload_n 1, 1) := by decide +kernel
theorem dX2_meet_2 : decode cX2_meet 2 = .ok (.invokevirtual 20, 3) := by decide +kernel
theorem dX2_meet_5 : decode cX2_meet 5 = .ok (.astore 4, 2) := by decide +kernel
theorem dX2_meet_7 : decode cX2_meet 7 = .ok (.aload 4, 2) := by decide +kernel
theorem dX2_meet_9 : decode cX2_meet 9 = .ok (.iload_n 2, 1) := by decide +kernel
theorem dX2_meet_10 : decode cX2_meet 10 = .ok (.invokestatic 58, 3) := by decide +kernel
theorem dX2_meet_13 : decode cX2_meet 13 = .ok (.astore 5, 2) := by decide +kernel
theorem dX2_meet_15 : decode cX2_meet 15 = .ok (.aload 4, 2) := by decide +kernel
theorem dX2_meet_17 : decode cX2_meet 17 = .ok (.iload_n 3, 1) := by decide +kernel
theorem dX2_meet_18 : decode cX2_meet 18 = .ok (.invokestatic 58, 3) := by decide +kernel
theorem dX2_meet_21 : decode cX2_meet 21 = .ok (.astore 6, 2) := by decide +kernel
theorem dX2_meet_23 : decode cX2_meet 23 = .ok (.aload 4, 2) := by decide +kernel
theorem dX2_meet_25 : decode cX2_meet 25 = .ok (.aload 5, 2) := by decide +kernel
theorem dX2_meet_27 : decode cX2_meet 27 = .ok (.aload 6, 2) := by decide +kernel
theorem dX2_meet_29 : decode cX2_meet 29 = .ok (.invokevirtual 152, 3) := by decide +kernel
theorem dX2_meet_32 : decode cX2_meet 32 = .ok (.invokestatic 105, 3) := by decide +kernel
theorem dX2_meet_35 : decode cX2_meet 35 = .ok (.ireturn, 1) := by decide +kernel
set_option maxRecDepth 20000 in
theorem ggX2_depthBehind_X2_treeOf : GoodIn wsX2_depthBehind wsX2_treeOf := goodIn_ca (goodIn_r _ [6, 7, 8, 9, 93, 94, 95] (by decide +kernel) (by decide +kernel)) (goodIn_sub (fun _ h => List.mem_cons_of_mem _ (List.mem_append_left _ (List.mem_append_right _ h))) (by decide +kernel))
set_option maxRecDepth 20000 in
theorem gX2_depthBehind_X2_treeOf : GoodIn wsX2_depthBehind (wsV RX2 20 RX2 yX2_treeOf wsX2_treeOf) := goodIn_app (goodIn_of _ (by decide +kernel)) ggX2_depthBehind_X2_treeOf
set_option maxRecDepth 20000 in
theorem ggX2_depthBehind_X2_appleOf : GoodIn wsX2_depthBehind wsX2_appleOf := goodIn_ca (goodIn_r _ [12, 13, 14, 15, 16, 17, 18, 19, 20, 21, 22, 23, 24, 25, 26, 27, 28, 29, 30, 31, 32, 33, 96, 97, 98, 99, 100, 101, 102] (by decide +kernel) (by decide +kernel)) (goodIn_sub (fun _ h => List.mem_cons_of_mem _ (List.mem_append_right _ h)) (by decide +kernel))
set_option maxRecDepth 20000 in
theorem gX2_depthBehind_X2_appleOf : GoodIn wsX2_depthBehind (va_wsS RX2 58 yX2_appleOf wsX2_appleOf) := goodIn_app (goodIn_of _ (by decide +kernel)) ggX2_depthBehind_X2_appleOf
set_option maxRecDepth 20000 in
theorem ggX2_depthBehind_X2_tryEating : GoodIn wsX2_depthBehind wsX2_tryEating := goodIn_r _ [37, 1, 38, 39, 40, 41, 18, 42, 25, 43, 44, 45, 46, 47, 48, 49, 29, 50, 32, 51, 52, 53, 54, 55, 56, 33, 57, 58, 59, 60, 61, 62, 63, 64, 65, 66, 67, 68, 69, 70, 71, 72, 73, 74, 75, 76, 77, 78, 79, 80, 81, 82, 83, 84, 85, 86, 87, 88, 89, 90, 91, 93, 94, 95, 96, 97, 98, 99, 100, 101, 102] (by decide +kernel) (by decide +kernel)
set_option maxRecDepth 20000 in
theorem gX2_depthBehind_X2_tryEating : GoodIn wsX2_depthBehind (wsV RX2 156 RX2 yX2_tryEating wsX2_tryEating) := goodIn_app (goodIn_of _ (by decide +kernel)) ggX2_depthBehind_X2_tryEating
set_option maxRecDepth 20000 in
theorem ggX2_depthBehind_X0_depth : GoodIn wsX2_depthBehind wsX0_depth := goodIn_r _ [74, 56, 96, 97, 98, 99, 100, 101] (by decide +kernel) (by decide +kernel)
set_option maxRecDepth 20000 in
theorem gX2_depthBehind_X0_depth : GoodIn wsX2_depthBehind (wsV RX2 140 RX0 yX0_depth wsX0_depth) := goodIn_app (goodIn_of _ (by decide +kernel)) ggX2_depthBehind_X0_depth
theorem dX2_depthBehind_0 : decode cX2_depthBehind 0 = .ok (.aload_n 0, 1) := by decide +kernel
theorem dX2_depthBehind_1 : decode cX2_depthBehind 1 = .ok (.iload_n 1, 1) := by decide +kernel
theorem dX2_depthBehind_2 : decode cX2_depthBehind 2 = .ok (.invokevirtual 20, 3) := by decide +kernel
theorem dX2_depthBehind_5 : decode cX2_depthBehind 5 = .ok (.astore 4, 2) := by decide +kernel
theorem dX2_depthBehind_7 : decode cX2_depthBehind 7 = .ok (.aload_n 0, 1) := by decide +kernel
theorem dX2_depthBehind_8 : decode cX2_depthBehind 8 = .ok (.aload 4, 2) := by decide +kernel
theorem dX2_depthBehind_10 : decode cX2_depthBehind 10 = .ok (.aload 4, 2) := by decide +kernel
theorem dX2_depthBehind_12 : decode cX2_depthBehind 12 = .ok (.iload_n 2, 1) := by decide +kernel
theorem dX2_depthBehind_13 : decode cX2_depthBehind 13 = .ok (.invokestatic 58, 3) := by decide +kernel
theorem dX2_depthBehind_16 : decode cX2_depthBehind 16 = .ok (.invokevirtual 156, 3) := by decide +kernel
theorem dX2_depthBehind_19 : decode cX2_depthBehind 19 = .ok (.aload_n 0, 1) := by decide +kernel
theorem dX2_depthBehind_20 : decode cX2_depthBehind 20 = .ok (.getfield 16, 3) := by decide +kernel
theorem dX2_depthBehind_23 : decode cX2_depthBehind 23 = .ok (.iload_n 3, 1) := by decide +kernel
theorem dX2_depthBehind_24 : decode cX2_depthBehind 24 = .ok (.invokestatic 58, 3) := by decide +kernel
theorem dX2_depthBehind_27 : decode cX2_depthBehind 27 = .ok (.invokevirtual 140, 3) := by decide +kernel
theorem dX2_depthBehind_30 : decode cX2_depthBehind 30 = .ok (.ireturn, 1) := by decide +kernel
set_option maxRecDepth 20000 in
theorem ggX2_heightBehind_X2_treeOf : GoodIn wsX2_heightBehind wsX2_treeOf := goodIn_ca (goodIn_r _ [6, 7, 8, 9, 100, 101, 102] (by decide +kernel) (by decide +kernel)) (goodIn_sub (fun _ h => List.mem_cons_of_mem _ (List.mem_append_left _ (List.mem_append_right _ h))) (by decide +kernel))
set_option maxRecDepth 20000 in
theorem gX2_heightBehind_X2_treeOf : GoodIn wsX2_heightBehind (wsV RX2 20 RX2 yX2_treeOf wsX2_treeOf) := goodIn_app (goodIn_of _ (by decide +kernel)) ggX2_heightBehind_X2_treeOf
set_option maxRecDepth 20000 in
theorem ggX2_heightBehind_X2_appleOf : GoodIn wsX2_heightBehind wsX2_appleOf := goodIn_ca (goodIn_r _ [12, 13, 14, 15, 16, 17, 18, 19, 20, 21, 22, 23, 24, 25, 26, 27, 28, 29, 30, 31, 32, 33, 103, 104, 105, 106, 107, 108, 109] (by decide +kernel) (by decide +kernel)) (goodIn_sub (fun _ h => List.mem_cons_of_mem _ (List.mem_append_right _ h)) (by decide +kernel))
set_option maxRecDepth 20000 in
theorem gX2_heightBehind_X2_appleOf : GoodIn wsX2_heightBehind (va_wsS RX2 58 yX2_appleOf wsX2_appleOf) := goodIn_app (goodIn_of _ (by decide +kernel)) ggX2_heightBehind_X2_appleOf
set_option maxRecDepth 20000 in
theorem ggX2_heightBehind_X2_tryEating : GoodIn wsX2_heightBehind wsX2_tryEating := goodIn_r _ [37, 1, 38, 39, 40, 41, 18, 42, 25, 43, 44, 45, 46, 47, 48, 49, 29, 50, 32, 51, 52, 53, 54, 55, 56, 33, 57, 58, 59, 60, 61, 62, 63, 64, 65, 66, 67, 68, 69, 70, 71, 72, 73, 74, 75, 76, 77, 78, 79, 80, 81, 82, 83, 84, 85, 86, 87, 88, 89, 90, 91, 100, 101, 102, 103, 104, 105, 106, 107, 108, 109] (by decide +kernel) (by decide +kernel)
set_option maxRecDepth 20000 in
theorem gX2_heightBehind_X2_tryEating : GoodIn wsX2_heightBehind (wsV RX2 156 RX2 yX2_tryEating wsX2_tryEating) := goodIn_app (goodIn_of _ (by decide +kernel)) ggX2_heightBehind_X2_tryEating
set_option maxRecDepth 20000 in
theorem ggX2_heightBehind_X1_levels : GoodIn wsX2_heightBehind wsX1_levels := goodIn_r _ [95, 96, 97, 98, 99, 43, 44, 45, 18, 46, 25, 47, 48, 49, 29, 50, 32, 71, 72, 73, 74, 56, 60, 61, 62, 63, 33, 64, 109, 103, 104, 105, 106, 107, 108] (by decide +kernel) (by decide +kernel)
set_option maxRecDepth 20000 in
theorem gX2_heightBehind_X1_levels : GoodIn wsX2_heightBehind (wsV RX2 109 RX1 yX1_levels wsX1_levels) := goodIn_app (goodIn_of _ (by decide +kernel)) ggX2_heightBehind_X1_levels
theorem dX2_heightBehind_0 : decode cX2_heightBehind 0 = .ok (.aload_n 0, 1) := by decide +kernel
theorem dX2_heightBehind_1 : decode cX2_heightBehind 1 = .ok (.iload_n 1, 1) := by decide +kernel
theorem dX2_heightBehind_2 : decode cX2_heightBehind 2 = .ok (.invokevirtual 20, 3) := by decide +kernel
theorem dX2_heightBehind_5 : decode cX2_heightBehind 5 = .ok (.astore_n 3, 1) := by decide +kernel
theorem dX2_heightBehind_6 : decode cX2_heightBehind 6 = .ok (.aload_n 0, 1) := by decide +kernel
theorem dX2_heightBehind_7 : decode cX2_heightBehind 7 = .ok (.aload_n 3, 1) := by decide +kernel
theorem dX2_heightBehind_8 : decode cX2_heightBehind 8 = .ok (.aload_n 3, 1) := by decide +kernel
theorem dX2_heightBehind_9 : decode cX2_heightBehind 9 = .ok (.iload_n 2, 1) := by decide +kernel
theorem dX2_heightBehind_10 : decode cX2_heightBehind 10 = .ok (.invokestatic 58, 3) := by decide +kernel
theorem dX2_heightBehind_13 : decode cX2_heightBehind 13 = .ok (.invokevirtual 156, 3) := by decide +kernel
theorem dX2_heightBehind_16 : decode cX2_heightBehind 16 = .ok (.aload_n 0, 1) := by decide +kernel
theorem dX2_heightBehind_17 : decode cX2_heightBehind 17 = .ok (.getfield 16, 3) := by decide +kernel
theorem dX2_heightBehind_20 : decode cX2_heightBehind 20 = .ok (.invokevirtual 109, 3) := by decide +kernel
theorem dX2_heightBehind_23 : decode cX2_heightBehind 23 = .ok (.ireturn, 1) := by decide +kernel
set_option maxRecDepth 20000 in
theorem ggX2_bestToEat_X2_treeOf : GoodIn wsX2_bestToEat wsX2_treeOf := goodIn_ca (goodIn_r _ [6, 7, 8, 9, 83, 84, 85] (by decide +kernel) (by decide +kernel)) (goodIn_sub (fun _ h => List.mem_cons_of_mem _ (List.mem_append_right _ h)) (by decide +kernel))
set_option maxRecDepth 20000 in
theorem gX2_bestToEat_X2_treeOf : GoodIn wsX2_bestToEat (wsV RX2 20 RX2 yX2_treeOf wsX2_treeOf) := goodIn_app (goodIn_of _ (by decide +kernel)) ggX2_bestToEat_X2_treeOf
set_option maxRecDepth 20000 in
theorem ggX2_bestToEat_X1_first : GoodIn wsX2_bestToEat wsX1_first := goodIn_r _ [14, 15, 16, 17, 18, 19, 20, 21, 86, 87, 88, 89, 90, 91, 92] (by decide +kernel) (by decide +kernel)
set_option maxRecDepth 20000 in
theorem gX2_bestToEat_X1_first : GoodIn wsX2_bestToEat (wsV RX2 115 RX1 yX1_first wsX1_first) := goodIn_app (goodIn_of _ (by decide +kernel)) ggX2_bestToEat_X1_first
set_option maxRecDepth 20000 in
theorem ggX2_bestToEat_X2_tryEating : GoodIn wsX2_bestToEat wsX2_tryEating := goodIn_r _ [25, 1, 26, 27, 28, 29, 13, 30, 15, 31, 11, 12, 14, 16, 17, 18, 19, 20, 21, 32, 33, 34, 35, 36, 37, 38, 39, 40, 41, 42, 43, 44, 45, 46, 47, 48, 49, 50, 51, 52, 53, 54, 55, 56, 57, 58, 59, 60, 61, 62, 63, 64, 65, 66, 67, 68, 69, 70, 71, 72, 73, 83, 84, 85, 87, 88, 89, 90, 91, 92, 86] (by decide +kernel) (by decide +kernel)
set_option maxRecDepth 20000 in
theorem gX2_bestToEat_X2_tryEating : GoodIn wsX2_bestToEat (wsV RX2 156 RX2 yX2_tryEating wsX2_tryEating) := goodIn_app (goodIn_of _ (by decide +kernel)) ggX2_bestToEat_X2_tryEating
set_option maxRecDepth 20000 in
theorem ggX2_bestToEat_X1_depthSum : GoodIn wsX2_bestToEat wsX1_depthSum := goodIn_r _ [77, 31, 11, 12, 13, 14, 15, 16, 17, 18, 19, 20, 21, 53, 54, 55, 56, 37, 42, 43, 44, 45, 38, 46, 86, 87, 88, 89, 90, 91, 92] (by decide +kernel) (by decide +kernel)
set_option maxRecDepth 20000 in
theorem gX2_bestToEat_X1_depthSum : GoodIn wsX2_bestToEat (wsV RX2 112 RX1 yX1_depthSum wsX1_depthSum) := goodIn_app (goodIn_of _ (by decide +kernel)) ggX2_bestToEat_X1_depthSum
set_option maxRecDepth 20000 in
theorem ggX2_bestToEat_X0_next : GoodIn wsX2_bestToEat wsX0_next := goodIn_r _ [45, 38, 37, 46, 17, 18, 19, 20, 21, 87, 88, 89, 90, 91, 92] (by decide +kernel) (by decide +kernel)
set_option maxRecDepth 20000 in
theorem gX2_bestToEat_X0_next : GoodIn wsX2_bestToEat (wsV RX2 159 RX0 yX0_next wsX0_next) := goodIn_app (goodIn_of _ (by decide +kernel)) ggX2_bestToEat_X0_next
set_option maxRecDepth 20000 in
theorem ggX2_bestToEat_X2_sizeOrNone : GoodIn wsX2_bestToEat wsX2_sizeOrNone := goodIn_r _ [81, 82, 87, 88, 89, 90, 91, 92] (by decide +kernel) (by decide +kernel)
set_option maxRecDepth 20000 in
theorem gX2_bestToEat_X2_sizeOrNone : GoodIn wsX2_bestToEat (va_wsS RX2 105 yX2_sizeOrNone wsX2_sizeOrNone) := goodIn_app (goodIn_of _ (by decide +kernel)) ggX2_bestToEat_X2_sizeOrNone
theorem dX2_bestToEat_0 : decode cX2_bestToEat 0 = .ok (.aload_n 0, 1) := by decide +kernel
theorem dX2_bestToEat_1 : decode cX2_bestToEat 1 = .ok (.iload_n 1, 1) := by decide +kernel
theorem dX2_bestToEat_2 : decode cX2_bestToEat 2 = .ok (.invokevirtual 20, 3) := by decide +kernel
theorem dX2_bestToEat_5 : decode cX2_bestToEat 5 = .ok (.astore_n 2, 1) := by decide +kernel
theorem dX2_bestToEat_6 : decode cX2_bestToEat 6 = .ok (.aconst_null, 1) := by decide +kernel
theorem dX2_bestToEat_7 : decode cX2_bestToEat 7 = .ok (.astore_n 3, 1) := by decide +kernel
theorem dX2_bestToEat_8 : decode cX2_bestToEat 8 = .ok (.iconst 0, 1) := by decide +kernel
theorem dX2_bestToEat_9 : decode cX2_bestToEat 9 = .ok (.istore 4, 2) := by decide +kernel
theorem dX2_bestToEat_11 : decode cX2_bestToEat 11 = .ok (.aload_n 2, 1) := by decide +kernel
theorem dX2_bestToEat_12 : decode cX2_bestToEat 12 = .ok (.invokevirtual 115, 3) := by decide +kernel
theorem dX2_bestToEat_15 : decode cX2_bestToEat 15 = .ok (.astore 5, 2) := by decide +kernel
theorem dX2_bestToEat_17 : decode cX2_bestToEat 17 = .ok (.aload 5, 2) := by decide +kernel
theorem dX2_bestToEat_19 : decode cX2_bestToEat 19 = .ok (.ifnull 47, 3) := by decide +kernel
theorem dX2_bestToEat_22 : decode cX2_bestToEat 22 = .ok (.aload_n 0, 1) := by decide +kernel
theorem dX2_bestToEat_23 : decode cX2_bestToEat 23 = .ok (.aload_n 2, 1) := by decide +kernel
theorem dX2_bestToEat_24 : decode cX2_bestToEat 24 = .ok (.aload 5, 2) := by decide +kernel
theorem dX2_bestToEat_26 : decode cX2_bestToEat 26 = .ok (.invokevirtual 156, 3) := by decide +kernel
theorem dX2_bestToEat_29 : decode cX2_bestToEat 29 = .ok (.aload_n 0, 1) := by decide +kernel
theorem dX2_bestToEat_30 : decode cX2_bestToEat 30 = .ok (.getfield 16, 3) := by decide +kernel
theorem dX2_bestToEat_33 : decode cX2_bestToEat 33 = .ok (.invokevirtual 112, 3) := by decide +kernel
theorem dX2_bestToEat_36 : decode cX2_bestToEat 36 = .ok (.istore 6, 2) := by decide +kernel
theorem dX2_bestToEat_38 : decode cX2_bestToEat 38 = .ok (.aload_n 3, 1) := by decide +kernel
theorem dX2_bestToEat_39 : decode cX2_bestToEat 39 = .ok (.ifnull 10, 3) := by decide +kernel
theorem dX2_bestToEat_42 : decode cX2_bestToEat 42 = .ok (.iload 6, 2) := by decide +kernel
theorem dX2_bestToEat_44 : decode cX2_bestToEat 44 = .ok (.iload 4, 2) := by decide +kernel
theorem dX2_bestToEat_46 : decode cX2_bestToEat 46 = .ok (.if_icmp .ge 10, 3) := by decide +kernel
theorem dX2_bestToEat_49 : decode cX2_bestToEat 49 = .ok (.aload 5, 2) := by decide +kernel
theorem dX2_bestToEat_51 : decode cX2_bestToEat 51 = .ok (.astore_n 3, 1) := by decide +kernel
theorem dX2_bestToEat_52 : decode cX2_bestToEat 52 = .ok (.iload 6, 2) := by decide +kernel
theorem dX2_bestToEat_54 : decode cX2_bestToEat 54 = .ok (.istore 4, 2) := by decide +kernel
theorem dX2_bestToEat_56 : decode cX2_bestToEat 56 = .ok (.aload 5, 2) := by decide +kernel
theorem dX2_bestToEat_58 : decode cX2_bestToEat 58 = .ok (.invokevirtual 159, 3) := by decide +kernel
theorem dX2_bestToEat_61 : decode cX2_bestToEat 61 = .ok (.astore 5, 2) := by decide +kernel
theorem dX2_bestToEat_63 : decode cX2_bestToEat 63 = .ok (.goto (-46), 3) := by decide +kernel
theorem dX2_bestToEat_66 : decode cX2_bestToEat 66 = .ok (.aload_n 3, 1) := by decide +kernel
theorem dX2_bestToEat_67 : decode cX2_bestToEat 67 = .ok (.invokestatic 105, 3) := by decide +kernel
theorem dX2_bestToEat_70 : decode cX2_bestToEat 70 = .ok (.ireturn, 1) := by decide +kernel
set_option maxRecDepth 20000 in
theorem ggX2_plantDepth_X2_treeOf : GoodIn wsX2_plantDepth wsX2_treeOf := goodIn_ca (goodIn_r _ [6, 7, 8, 9, 40, 41, 42] (by decide +kernel) (by decide +kernel)) (goodIn_sub (fun _ h => List.mem_cons_of_mem _ (List.mem_append_left _ (List.mem_append_right _ h))) (by decide +kernel))
set_option maxRecDepth 20000 in
theorem gX2_plantDepth_X2_treeOf : GoodIn wsX2_plantDepth (wsV RX2 20 RX2 yX2_treeOf wsX2_treeOf) := goodIn_app (goodIn_of _ (by decide +kernel)) ggX2_plantDepth_X2_treeOf
set_option maxRecDepth 20000 in
theorem ggX2_plantDepth_X2_checkSize : GoodIn wsX2_plantDepth wsX2_checkSize := goodIn_ca (goodIn_r _ [12, 13, 14] (by decide +kernel) (by decide +kernel)) (goodIn_sub (fun _ h => List.mem_cons_of_mem _ (List.mem_append_right _ h)) (by decide +kernel))
set_option maxRecDepth 20000 in
theorem gX2_plantDepth_X2_checkSize : GoodIn wsX2_plantDepth (va_wsS RX2 24 yX2_checkSize wsX2_checkSize) := goodIn_app (goodIn_of _ (by decide +kernel)) ggX2_plantDepth_X2_checkSize
set_option maxRecDepth 20000 in
theorem ggX2_plantDepth_X1_nearest : GoodIn wsX2_plantDepth wsX1_nearest := goodIn_r _ [19, 20, 21, 22, 23, 24, 25, 26, 27, 28, 43, 34, 35, 36, 37, 38, 39] (by decide +kernel) (by decide +kernel)
set_option maxRecDepth 20000 in
theorem gX2_plantDepth_X1_nearest : GoodIn wsX2_plantDepth (wsV RX2 162 RX1 yX1_nearest wsX1_nearest) := goodIn_app (goodIn_of _ (by decide +kernel)) ggX2_plantDepth_X1_nearest
set_option maxRecDepth 20000 in
theorem ggX2_plantDepth_X0_depth : GoodIn wsX2_plantDepth wsX0_depth := goodIn_r _ [32, 33, 34, 35, 36, 37, 38, 39] (by decide +kernel) (by decide +kernel)
set_option maxRecDepth 20000 in
theorem gX2_plantDepth_X0_depth : GoodIn wsX2_plantDepth (wsV RX2 140 RX0 yX0_depth wsX0_depth) := goodIn_app (goodIn_of _ (by decide +kernel)) ggX2_plantDepth_X0_depth
theorem dX2_plantDepth_0 : decode cX2_plantDepth 0 = .ok (.aload_n 0, 1) := by decide +kernel
theorem dX2_plantDepth_1 : decode cX2_plantDepth 1 = .ok (.iload_n 1, 1) := by decide +kernel
theorem dX2_plantDepth_2 : decode cX2_plantDepth 2 = .ok (.invokevirtual 20, 3) := by decide +kernel
theorem dX2_plantDepth_5 : decode cX2_plantDepth 5 = .ok (.astore_n 3, 1) := by decide +kernel
theorem dX2_plantDepth_6 : decode cX2_plantDepth 6 = .ok (.iload_n 2, 1) := by decide +kernel
theorem dX2_plantDepth_7 : decode cX2_plantDepth 7 = .ok (.invokestatic 24, 3) := by decide +kernel
theorem dX2_plantDepth_10 : decode cX2_plantDepth 10 = .ok (.aload_n 3, 1) := by decide +kernel
theorem dX2_plantDepth_11 : decode cX2_plantDepth 11 = .ok (.iload_n 2, 1) := by decide +kernel
theorem dX2_plantDepth_12 : decode cX2_plantDepth 12 = .ok (.invokevirtual 162, 3) := by decide +kernel
theorem dX2_plantDepth_15 : decode cX2_plantDepth 15 = .ok (.astore 4, 2) := by decide +kernel
theorem dX2_plantDepth_17 : decode cX2_plantDepth 17 = .ok (.aload 4, 2) := by decide +kernel
theorem dX2_plantDepth_19 : decode cX2_plantDepth 19 = .ok (.ifnonnull 5, 3) := by decide +kernel
theorem dX2_plantDepth_22 : decode cX2_plantDepth 22 = .ok (.iconst 0, 1) := by decide +kernel
theorem dX2_plantDepth_23 : decode cX2_plantDepth 23 = .ok (.ireturn, 1) := by decide +kernel
theorem dX2_plantDepth_24 : decode cX2_plantDepth 24 = .ok (.aload 4, 2) := by decide +kernel
theorem dX2_plantDepth_26 : decode cX2_plantDepth 26 = .ok (.getfield 130, 3) := by decide +kernel
theorem dX2_plantDepth_29 : decode cX2_plantDepth 29 = .ok (.iload_n 2, 1) := by decide +kernel
theorem dX2_plantDepth_30 : decode cX2_plantDepth 30 = .ok (.if_icmp .ne 7, 3) := by decide +kernel
theorem dX2_plantDepth_33 : decode cX2_plantDepth 33 = .ok (.iconst (-1), 1) := by decide +kernel
theorem dX2_plantDepth_34 : decode cX2_plantDepth 34 = .ok (.goto 10, 3) := by decide +kernel
theorem dX2_plantDepth_37 : decode cX2_plantDepth 37 = .ok (.aload 4, 2) := by decide +kernel
theorem dX2_plantDepth_39 : decode cX2_plantDepth 39 = .ok (.invokevirtual 140, 3) := by decide +kernel
theorem dX2_plantDepth_42 : decode cX2_plantDepth 42 = .ok (.iconst 1, 1) := by decide +kernel
theorem dX2_plantDepth_43 : decode cX2_plantDepth 43 = .ok (.iadd, 1) := by decide +kernel
theorem dX2_plantDepth_44 : decode cX2_plantDepth 44 = .ok (.ireturn, 1) := by decide +kernel
set_option maxRecDepth 20000 in
theorem ggX2_canJoin_X2_treeOf : GoodIn wsX2_canJoin wsX2_treeOf := goodIn_ca (goodIn_r _ [5, 6, 7, 8, 34, 35, 36] (by decide +kernel) (by decide +kernel)) (goodIn_sub (fun _ h => List.mem_cons_of_mem _ (List.mem_append_right _ h)) (by decide +kernel))
set_option maxRecDepth 20000 in
theorem gX2_canJoin_X2_treeOf : GoodIn wsX2_canJoin (wsV RX2 20 RX2 yX2_treeOf wsX2_treeOf) := goodIn_app (goodIn_of _ (by decide +kernel)) ggX2_canJoin_X2_treeOf
set_option maxRecDepth 20000 in
theorem ggX2_canJoin_X2_mayJoin : GoodIn wsX2_canJoin wsX2_mayJoin := goodIn_r _ [11, 12, 13, 14, 15, 16, 17, 18, 19, 20, 21, 22, 23, 24, 25, 26, 27, 28, 29, 30, 31, 32, 33, 37, 38, 39, 40, 41, 42, 43] (by decide +kernel) (by decide +kernel)
set_option maxRecDepth 20000 in
theorem gX2_canJoin_X2_mayJoin : GoodIn wsX2_canJoin (va_wsS RX2 96 yX2_mayJoin wsX2_mayJoin) := goodIn_app (goodIn_of _ (by decide +kernel)) ggX2_canJoin_X2_mayJoin
theorem dX2_canJoin_0 : decode cX2_canJoin 0 = .ok (.aload_n 0, 1) := by decide +kernel
theorem dX2_canJoin_1 : decode cX2_canJoin 1 = .ok (.iload_n 1, 1) := by decide +kernel
theorem dX2_canJoin_2 : decode cX2_canJoin 2 = .ok (.invokevirtual 20, 3) := by decide +kernel
theorem dX2_canJoin_5 : decode cX2_canJoin 5 = .ok (.aload_n 0, 1) := by decide +kernel
theorem dX2_canJoin_6 : decode cX2_canJoin 6 = .ok (.iload_n 2, 1) := by decide +kernel
theorem dX2_canJoin_7 : decode cX2_canJoin 7 = .ok (.invokevirtual 20, 3) := by decide +kernel
theorem dX2_canJoin_10 : decode cX2_canJoin 10 = .ok (.invokestatic 96, 3) := by decide +kernel
theorem dX2_canJoin_13 : decode cX2_canJoin 13 = .ok (.ireturn, 1) := by decide +kernel
set_option maxRecDepth 20000 in
theorem ggX2_meanDepth_X2_treeOf : GoodIn wsX2_meanDepth wsX2_treeOf := goodIn_ca (goodIn_r _ [5, 6, 7, 8, 49, 50, 51] (by decide +kernel) (by decide +kernel)) (goodIn_sub (fun _ h => List.mem_cons_of_mem _ (List.mem_append_right _ h)) (by decide +kernel))
set_option maxRecDepth 20000 in
theorem gX2_meanDepth_X2_treeOf : GoodIn wsX2_meanDepth (wsV RX2 20 RX2 yX2_treeOf wsX2_treeOf) := goodIn_app (goodIn_of _ (by decide +kernel)) ggX2_meanDepth_X2_treeOf
set_option maxRecDepth 20000 in
theorem ggX2_meanDepth_X1_count : GoodIn wsX2_meanDepth wsX1_count := goodIn_r _ [13, 14, 15, 16, 17, 18, 19, 20, 21, 22, 23, 24, 25, 26, 27, 28, 29, 30, 31, 32, 33, 34, 52, 53, 54, 55, 56, 57, 58] (by decide +kernel) (by decide +kernel)
set_option maxRecDepth 20000 in
theorem gX2_meanDepth_X1_count : GoodIn wsX2_meanDepth (wsV RX2 93 RX1 yX1_count wsX1_count) := goodIn_app (goodIn_of _ (by decide +kernel)) ggX2_meanDepth_X1_count
set_option maxRecDepth 20000 in
theorem ggX2_meanDepth_X1_depthSum : GoodIn wsX2_meanDepth wsX1_depthSum := goodIn_r _ [38, 39, 40, 41, 12, 42, 14, 43, 26, 27, 18, 28, 29, 44, 45, 46, 47, 34, 48, 31, 32, 33, 24, 25, 52, 53, 54, 55, 56, 57, 58] (by decide +kernel) (by decide +kernel)
set_option maxRecDepth 20000 in
theorem gX2_meanDepth_X1_depthSum : GoodIn wsX2_meanDepth (wsV RX2 112 RX1 yX1_depthSum wsX1_depthSum) := goodIn_app (goodIn_of _ (by decide +kernel)) ggX2_meanDepth_X1_depthSum
theorem dX2_meanDepth_0 : decode cX2_meanDepth 0 = .ok (.aload_n 0, 1) := by decide +kernel
theorem dX2_meanDepth_1 : decode cX2_meanDepth 1 = .ok (.iload_n 1, 1) := by decide +kernel
theorem dX2_meanDepth_2 : decode cX2_meanDepth 2 = .ok (.invokevirtual 20, 3) := by decide +kernel
theorem dX2_meanDepth_5 : decode cX2_meanDepth 5 = .ok (.astore_n 2, 1) := by decide +kernel
theorem dX2_meanDepth_6 : decode cX2_meanDepth 6 = .ok (.aload_n 2, 1) := by decide +kernel
theorem dX2_meanDepth_7 : decode cX2_meanDepth 7 = .ok (.invokevirtual 93, 3) := by decide +kernel
theorem dX2_meanDepth_10 : decode cX2_meanDepth 10 = .ok (.istore_n 3, 1) := by decide +kernel
theorem dX2_meanDepth_11 : decode cX2_meanDepth 11 = .ok (.iload_n 3, 1) := by decide +kernel
theorem dX2_meanDepth_12 : decode cX2_meanDepth 12 = .ok (.ifCond .ne 7, 3) := by decide +kernel
theorem dX2_meanDepth_15 : decode cX2_meanDepth 15 = .ok (.dconst 0, 1) := by decide +kernel
theorem dX2_meanDepth_16 : decode cX2_meanDepth 16 = .ok (.goto 11, 3) := by decide +kernel
theorem dX2_meanDepth_19 : decode cX2_meanDepth 19 = .ok (.aload_n 2, 1) := by decide +kernel
theorem dX2_meanDepth_20 : decode cX2_meanDepth 20 = .ok (.invokevirtual 112, 3) := by decide +kernel
theorem dX2_meanDepth_23 : decode cX2_meanDepth 23 = .ok (.i2d, 1) := by decide +kernel
theorem dX2_meanDepth_24 : decode cX2_meanDepth 24 = .ok (.iload_n 3, 1) := by decide +kernel
theorem dX2_meanDepth_25 : decode cX2_meanDepth 25 = .ok (.i2d, 1) := by decide +kernel
theorem dX2_meanDepth_26 : decode cX2_meanDepth 26 = .ok (.ddiv, 1) := by decide +kernel
theorem dX2_meanDepth_27 : decode cX2_meanDepth 27 = .ok (.dreturn, 1) := by decide +kernel
set_option maxRecDepth 20000 in
theorem ggX2_digest_X2_apples : GoodIn wsX2_digest wsX2_apples := goodIn_r _ [7, 2, 8, 9, 10, 11, 12, 13, 14, 15, 16, 17, 18, 19, 20, 21, 22, 23, 24, 25, 26, 27, 28, 29, 30, 31, 32, 33, 175, 176, 177, 178, 179, 180, 181, 182, 183, 184] (by decide +kernel) (by decide +kernel)
set_option maxRecDepth 20000 in
theorem gX2_digest_X2_apples : GoodIn wsX2_digest (wsV RX2 28 RX2 yX2_apples wsX2_apples) := goodIn_app (goodIn_of _ (by decide +kernel)) ggX2_digest_X2_apples
set_option maxRecDepth 20000 in
theorem ggX2_digest_X2_mix : GoodIn wsX2_digest wsX2_mix := goodIn_r _ [36, 37] (by decide +kernel) (by decide +kernel)
set_option maxRecDepth 20000 in
theorem gX2_digest_X2_mix : GoodIn wsX2_digest (va_wsS RX2 167 yX2_mix wsX2_mix) := goodIn_app (goodIn_of _ (by decide +kernel)) ggX2_digest_X2_mix
set_option maxRecDepth 20000 in
theorem ggX2_digest_X2_turnings : GoodIn wsX2_digest wsX2_turnings := goodIn_r _ [41, 42, 175, 176, 177] (by decide +kernel) (by decide +kernel)
set_option maxRecDepth 20000 in
theorem gX2_digest_X2_turnings : GoodIn wsX2_digest (wsV RX2 171 RX2 yX2_turnings wsX2_turnings) := goodIn_app (goodIn_of _ (by decide +kernel)) ggX2_digest_X2_turnings
set_option maxRecDepth 20000 in
theorem ggX2_digest_X2_mixRow : GoodIn wsX2_digest wsX2_mixRow := goodIn_ca (goodIn_r _ [46, 47, 48, 49, 6, 50, 51, 52, 53, 54, 55, 56, 2, 8, 9, 10, 11, 12, 13, 14, 15, 16, 17, 18, 19, 20, 21, 22, 23, 24, 25, 26, 27, 28, 29, 30, 31, 32, 33, 34, 35, 36, 37, 57, 58, 59, 60, 61, 62, 63, 64, 65, 66, 67, 68, 69, 70, 71, 72, 73, 74, 75, 76, 77, 78, 79, 80, 81, 82, 83, 84, 85, 86, 87, 88, 89, 90, 91, 92, 93, 94, 95, 96, 97, 98, 99, 100, 101, 102, 103, 104, 105, 106, 107, 108, 109, 110, 111, 112, 113, 114, 115, 116, 117, 118, 119, 120, 121, 122, 123, 124, 125, 126, 127, 128, 129, 130, 131, 132, 133, 134, 135, 136, 137, 138, 139, 140, 141, 142, 143, 144, 145, 146, 147, 148, 149, 150, 151, 152, 153, 154, 155, 156, 157, 158, 159, 160, 161, 162, 163, 164, 165, 175, 176, 177, 178, 179, 180, 181, 182, 183, 184] (by decide +kernel) (by decide +kernel)) (goodIn_sub (fun _ h => List.mem_cons_of_mem _ (List.mem_append_right _ h)) (by decide +kernel))
set_option maxRecDepth 20000 in
theorem gX2_digest_X2_mixRow : GoodIn wsX2_digest (wsV RX2 174 RX2 yX2_mixRow wsX2_mixRow) := goodIn_app (goodIn_of _ (by decide +kernel)) ggX2_digest_X2_mixRow
set_option maxRecDepth 20000 in
theorem ggX2_digest_X1_first : GoodIn wsX2_digest wsX1_first := goodIn_r _ [81, 13, 82, 25, 26, 17, 27, 28, 178, 179, 180, 181, 182, 183, 184] (by decide +kernel) (by decide +kernel)
set_option maxRecDepth 20000 in
theorem gX2_digest_X1_first : GoodIn wsX2_digest (wsV RX2 115 RX1 yX1_first wsX1_first) := goodIn_app (goodIn_of _ (by decide +kernel)) ggX2_digest_X1_first
set_option maxRecDepth 20000 in
theorem ggX2_digest_X2_mixApple : GoodIn wsX2_digest wsX2_mixApple := goodIn_r _ [168, 65, 169, 170, 171, 172, 34, 35, 6, 36, 37, 173, 84, 85, 17, 86, 33, 62, 63, 64, 174, 15, 16, 18, 19, 20, 21, 22, 23, 24, 25, 26, 27, 28, 29, 30, 31, 32, 179, 180, 181, 182, 183, 184] (by decide +kernel) (by decide +kernel)
set_option maxRecDepth 20000 in
theorem gX2_digest_X2_mixApple : GoodIn wsX2_digest (va_wsS RX2 177 yX2_mixApple wsX2_mixApple) := goodIn_app (goodIn_of _ (by decide +kernel)) ggX2_digest_X2_mixApple
set_option maxRecDepth 20000 in
theorem ggX2_digest_X0_next : GoodIn wsX2_digest wsX0_next := goodIn_r _ [32, 23, 33, 24, 25, 26, 17, 27, 28, 179, 180, 181, 182, 183, 184] (by decide +kernel) (by decide +kernel)
set_option maxRecDepth 20000 in
theorem gX2_digest_X0_next : GoodIn wsX2_digest (wsV RX2 159 RX0 yX0_next wsX0_next) := goodIn_app (goodIn_of _ (by decide +kernel)) ggX2_digest_X0_next
theorem dX2_digest_0 : decode cX2_digest 0 = .ok (.ldc2_w 165, 3) := by decide +kernel
theorem dX2_digest_3 : decode cX2_digest 3 = .ok (.lstore_n 1, 1) := by decide +kernel
theorem dX2_digest_4 : decode cX2_digest 4 = .ok (.lload_n 1, 1) := by decide +kernel
theorem dX2_digest_5 : decode cX2_digest 5 = .ok (.aload_n 0, 1) := by decide +kernel
theorem dX2_digest_6 : decode cX2_digest 6 = .ok (.invokevirtual 28, 3) := by decide +kernel
theorem dX2_digest_9 : decode cX2_digest 9 = .ok (.invokestatic 167, 3) := by decide +kernel
theorem dX2_digest_12 : decode cX2_digest 12 = .ok (.lstore_n 1, 1) := by decide +kernel
theorem dX2_digest_13 : decode cX2_digest 13 = .ok (.lload_n 1, 1) := by decide +kernel
theorem dX2_digest_14 : decode cX2_digest 14 = .ok (.aload_n 0, 1) := by decide +kernel
theorem dX2_digest_15 : decode cX2_digest 15 = .ok (.invokevirtual 171, 3) := by decide +kernel
theorem dX2_digest_18 : decode cX2_digest 18 = .ok (.invokestatic 167, 3) := by decide +kernel
theorem dX2_digest_21 : decode cX2_digest 21 = .ok (.lstore_n 1, 1) := by decide +kernel
theorem dX2_digest_22 : decode cX2_digest 22 = .ok (.iconst 0, 1) := by decide +kernel
theorem dX2_digest_23 : decode cX2_digest 23 = .ok (.istore_n 3, 1) := by decide +kernel
theorem dX2_digest_24 : decode cX2_digest 24 = .ok (.iload_n 3, 1) := by decide +kernel
theorem dX2_digest_25 : decode cX2_digest 25 = .ok (.aload_n 0, 1) := by decide +kernel
theorem dX2_digest_26 : decode cX2_digest 26 = .ok (.getfield 11, 3) := by decide +kernel
theorem dX2_digest_29 : decode cX2_digest 29 = .ok (.arraylength, 1) := by decide +kernel
theorem dX2_digest_30 : decode cX2_digest 30 = .ok (.if_icmp .ge 49, 3) := by decide +kernel
theorem dX2_digest_33 : decode cX2_digest 33 = .ok (.aload_n 0, 1) := by decide +kernel
theorem dX2_digest_34 : decode cX2_digest 34 = .ok (.lload_n 1, 1) := by decide +kernel
theorem dX2_digest_35 : decode cX2_digest 35 = .ok (.iload_n 3, 1) := by decide +kernel
theorem dX2_digest_36 : decode cX2_digest 36 = .ok (.invokevirtual 174, 3) := by decide +kernel
theorem dX2_digest_39 : decode cX2_digest 39 = .ok (.lstore_n 1, 1) := by decide +kernel
theorem dX2_digest_40 : decode cX2_digest 40 = .ok (.aload_n 0, 1) := by decide +kernel
theorem dX2_digest_41 : decode cX2_digest 41 = .ok (.getfield 11, 3) := by decide +kernel
theorem dX2_digest_44 : decode cX2_digest 44 = .ok (.iload_n 3, 1) := by decide +kernel
theorem dX2_digest_45 : decode cX2_digest 45 = .ok (.aaload, 1) := by decide +kernel
theorem dX2_digest_46 : decode cX2_digest 46 = .ok (.invokevirtual 115, 3) := by decide +kernel
theorem dX2_digest_49 : decode cX2_digest 49 = .ok (.astore 4, 2) := by decide +kernel
theorem dX2_digest_51 : decode cX2_digest 51 = .ok (.aload 4, 2) := by decide +kernel
theorem dX2_digest_53 : decode cX2_digest 53 = .ok (.ifnull 20, 3) := by decide +kernel
theorem dX2_digest_56 : decode cX2_digest 56 = .ok (.lload_n 1, 1) := by decide +kernel
theorem dX2_digest_57 : decode cX2_digest 57 = .ok (.aload 4, 2) := by decide +kernel
theorem dX2_digest_59 : decode cX2_digest 59 = .ok (.invokestatic 177, 3) := by decide +kernel
theorem dX2_digest_62 : decode cX2_digest 62 = .ok (.lstore_n 1, 1) := by decide +kernel
theorem dX2_digest_63 : decode cX2_digest 63 = .ok (.aload 4, 2) := by decide +kernel
theorem dX2_digest_65 : decode cX2_digest 65 = .ok (.invokevirtual 159, 3) := by decide +kernel
theorem dX2_digest_68 : decode cX2_digest 68 = .ok (.astore 4, 2) := by decide +kernel
theorem dX2_digest_70 : decode cX2_digest 70 = .ok (.goto (-19), 3) := by decide +kernel
theorem dX2_digest_73 : decode cX2_digest 73 = .ok (.iinc 3 1, 3) := by decide +kernel
theorem dX2_digest_76 : decode cX2_digest 76 = .ok (.goto (-52), 3) := by decide +kernel
theorem dX2_digest_79 : decode cX2_digest 79 = .ok (.lload_n 1, 1) := by decide +kernel
theorem dX2_digest_80 : decode cX2_digest 80 = .ok (.lreturn, 1) := by decide +kernel
set_option maxRecDepth 20000 in
theorem ggX2_mixRow_X2_sizeOf : GoodIn wsX2_mixRow wsX2_sizeOf := goodIn_ca (goodIn_r _ [5, 6, 7, 8, 4, 9, 10, 11, 12, 13, 14, 15, 16, 17, 18, 19, 20, 21, 22, 23, 24, 25, 26, 27, 28, 29, 30, 31, 32, 33, 34, 35, 36, 37, 38, 152, 153, 154, 155, 156, 157, 158, 159, 160, 161] (by decide +kernel) (by decide +kernel)) (goodIn_sub (fun _ h => List.mem_cons_of_mem _ (List.mem_append_right _ h)) (by decide +kernel))
set_option maxRecDepth 20000 in
theorem gX2_mixRow_X2_sizeOf : GoodIn wsX2_mixRow (wsV RX2 181 RX2 yX2_sizeOf wsX2_sizeOf) := goodIn_app (goodIn_of _ (by decide +kernel)) ggX2_mixRow_X2_sizeOf
set_option maxRecDepth 20000 in
theorem ggX2_mixRow_X2_mix : GoodIn wsX2_mixRow wsX2_mix := goodIn_r _ [41, 42] (by decide +kernel) (by decide +kernel)
set_option maxRecDepth 20000 in
theorem gX2_mixRow_X2_mix : GoodIn wsX2_mixRow (va_wsS RX2 167 yX2_mix wsX2_mix) := goodIn_app (goodIn_of _ (by decide +kernel)) ggX2_mixRow_X2_mix
set_option maxRecDepth 20000 in
theorem ggX2_mixRow_X2_top : GoodIn wsX2_mixRow wsX2_top := goodIn_ca (goodIn_r _ [46, 47, 6, 7, 8, 4, 9, 10, 11, 12, 48, 49, 50, 51, 155, 152, 153, 154, 156, 157, 158, 159, 160, 161] (by decide +kernel) (by decide +kernel)) (goodIn_sub (fun _ h => List.mem_cons_of_mem _ (List.mem_append_right _ h)) (by decide +kernel))
set_option maxRecDepth 20000 in
theorem gX2_mixRow_X2_top : GoodIn wsX2_mixRow (wsV RX2 184 RX2 yX2_top wsX2_top) := goodIn_app (goodIn_of _ (by decide +kernel)) ggX2_mixRow_X2_top
set_option maxRecDepth 20000 in
theorem ggX2_mixRow_X2_height : GoodIn wsX2_mixRow wsX2_height := goodIn_ca (goodIn_r _ [55, 6, 7, 8, 4, 9, 10, 11, 12, 56, 57, 58, 16, 59, 60, 61, 62, 63, 64, 65, 66, 67, 18, 68, 30, 31, 22, 32, 33, 69, 70, 71, 72, 38, 73, 35, 36, 37, 28, 29, 152, 153, 154, 155, 156, 157, 158, 159, 160, 161] (by decide +kernel) (by decide +kernel)) (goodIn_sub (fun _ h => List.mem_cons_of_mem _ (List.mem_append_right _ h)) (by decide +kernel))
set_option maxRecDepth 20000 in
theorem gX2_mixRow_X2_height : GoodIn wsX2_mixRow (wsV RX2 186 RX2 yX2_height wsX2_height) := goodIn_app (goodIn_of _ (by decide +kernel)) ggX2_mixRow_X2_height
set_option maxRecDepth 20000 in
theorem ggX2_mixRow_X2_leastHeight : GoodIn wsX2_mixRow wsX2_leastHeight := goodIn_ca (goodIn_r _ [77, 6, 7, 8, 4, 9, 10, 11, 12, 13, 14, 15, 16, 17, 18, 19, 20, 21, 22, 23, 24, 25, 26, 27, 28, 29, 30, 31, 32, 33, 34, 35, 36, 37, 38, 152, 153, 154, 155, 156, 157, 158, 159, 160, 161] (by decide +kernel) (by decide +kernel)) (goodIn_sub (fun _ h => List.mem_cons_of_mem _ (List.mem_append_right _ h)) (by decide +kernel))
set_option maxRecDepth 20000 in
theorem gX2_mixRow_X2_leastHeight : GoodIn wsX2_mixRow (wsV RX2 189 RX2 yX2_leastHeight wsX2_leastHeight) := goodIn_app (goodIn_of _ (by decide +kernel)) ggX2_mixRow_X2_leastHeight
set_option maxRecDepth 20000 in
theorem ggX2_mixRow_X2_depths : GoodIn wsX2_mixRow wsX2_depths := goodIn_ca (goodIn_r _ [81, 6, 7, 8, 4, 9, 10, 11, 12, 82, 83, 84, 16, 85, 64, 65, 66, 67, 18, 68, 30, 31, 22, 32, 33, 69, 70, 71, 72, 38, 73, 35, 36, 37, 28, 29, 152, 153, 154, 155, 156, 157, 158, 159, 160, 161] (by decide +kernel) (by decide +kernel)) (goodIn_sub (fun _ h => List.mem_cons_of_mem _ (List.mem_append_right _ h)) (by decide +kernel))
set_option maxRecDepth 20000 in
theorem gX2_mixRow_X2_depths : GoodIn wsX2_mixRow (wsV RX2 192 RX2 yX2_depths wsX2_depths) := goodIn_app (goodIn_of _ (by decide +kernel)) ggX2_mixRow_X2_depths
set_option maxRecDepth 20000 in
theorem ggX2_mixRow_X2_leaves : GoodIn wsX2_mixRow wsX2_leaves := goodIn_ca (goodIn_r _ [89, 6, 7, 8, 4, 9, 10, 11, 12, 90, 91, 92, 16, 93, 94, 95, 64, 65, 66, 67, 18, 68, 30, 31, 22, 32, 33, 73, 35, 36, 37, 28, 38, 29, 152, 153, 154, 156, 157, 158, 159, 160, 161, 155] (by decide +kernel) (by decide +kernel)) (goodIn_sub (fun _ h => List.mem_cons_of_mem _ (List.mem_append_right _ h)) (by decide +kernel))
set_option maxRecDepth 20000 in
theorem gX2_mixRow_X2_leaves : GoodIn wsX2_mixRow (wsV RX2 195 RX2 yX2_leaves wsX2_leaves) := goodIn_app (goodIn_of _ (by decide +kernel)) ggX2_mixRow_X2_leaves
set_option maxRecDepth 20000 in
theorem ggX2_mixRow_X2_favourite : GoodIn wsX2_mixRow wsX2_favourite := goodIn_ca (goodIn_r _ [99, 6, 7, 8, 4, 9, 10, 11, 12, 100, 101, 102, 16, 103, 104, 64, 65, 66, 67, 18, 68, 30, 31, 22, 32, 33, 73, 35, 36, 37, 28, 38, 29, 48, 49, 50, 51, 152, 153, 154, 156, 157, 158, 159, 160, 161, 155] (by decide +kernel) (by decide +kernel)) (goodIn_sub (fun _ h => List.mem_cons_of_mem _ (List.mem_append_right _ h)) (by decide +kernel))
set_option maxRecDepth 20000 in
theorem gX2_mixRow_X2_favourite : GoodIn wsX2_mixRow (wsV RX2 198 RX2 yX2_favourite wsX2_favourite) := goodIn_app (goodIn_of _ (by decide +kernel)) ggX2_mixRow_X2_favourite
set_option maxRecDepth 20000 in
theorem ggX2_mixRow_X2_bestToEat : GoodIn wsX2_mixRow wsX2_bestToEat := goodIn_ca (goodIn_r _ [108, 109, 6, 7, 8, 4, 9, 10, 11, 12, 110, 65, 66, 16, 67, 18, 68, 30, 31, 22, 32, 33, 111, 112, 113, 114, 115, 116, 117, 118, 119, 64, 120, 121, 122, 123, 124, 38, 28, 125, 126, 127, 73, 35, 36, 37, 29, 128, 129, 130, 131, 132, 133, 69, 70, 71, 72, 134, 135, 136, 137, 138, 139, 140, 141, 142, 143, 144, 145, 146, 147, 148, 149, 150, 82, 83, 84, 85, 151, 48, 49, 50, 51, 152, 153, 154, 155, 156, 157, 158, 159, 160, 161] (by decide +kernel) (by decide +kernel)) (goodIn_sub (fun _ h => List.mem_cons_of_mem _ (List.mem_append_right _ h)) (by decide +kernel))
set_option maxRecDepth 20000 in
theorem gX2_mixRow_X2_bestToEat : GoodIn wsX2_mixRow (wsV RX2 201 RX2 yX2_bestToEat wsX2_bestToEat) := goodIn_app (goodIn_of _ (by decide +kernel)) ggX2_mixRow_X2_bestToEat
theorem dX2_mixRow_0 : decode cX2_mixRow 0 = .ok (.lload_n 1, 1) := by decide +kernel
theorem dX2_mixRow_1 : decode cX2_mixRow 1 = .ok (.lstore 4, 2) := by decide +kernel
theorem dX2_mixRow_3 : decode cX2_mixRow 3 = .ok (.lload 4, 2) := by decide +kernel
theorem dX2_mixRow_5 : decode cX2_mixRow 5 = .ok (.aload_n 0, 1) := by decide +kernel
theorem dX2_mixRow_6 : decode cX2_mixRow 6 = .ok (.iload_n 3, 1) := by decide +kernel
theorem dX2_mixRow_7 : decode cX2_mixRow 7 = .ok (.invokevirtual 181, 3) := by decide +kernel
theorem dX2_mixRow_10 : decode cX2_mixRow 10 = .ok (.invokestatic 167, 3) := by decide +kernel
theorem dX2_mixRow_13 : decode cX2_mixRow 13 = .ok (.lstore 4, 2) := by decide +kernel
theorem dX2_mixRow_15 : decode cX2_mixRow 15 = .ok (.lload 4, 2) := by decide +kernel
theorem dX2_mixRow_17 : decode cX2_mixRow 17 = .ok (.aload_n 0, 1) := by decide +kernel
theorem dX2_mixRow_18 : decode cX2_mixRow 18 = .ok (.iload_n 3, 1) := by decide +kernel
theorem dX2_mixRow_19 : decode cX2_mixRow 19 = .ok (.invokevirtual 184, 3) := by decide +kernel
theorem dX2_mixRow_22 : decode cX2_mixRow 22 = .ok (.invokestatic 167, 3) := by decide +kernel
theorem dX2_mixRow_25 : decode cX2_mixRow 25 = .ok (.lstore 4, 2) := by decide +kernel
theorem dX2_mixRow_27 : decode cX2_mixRow 27 = .ok (.lload 4, 2) := by decide +kernel
theorem dX2_mixRow_29 : decode cX2_mixRow 29 = .ok (.aload_n 0, 1) := by decide +kernel
theorem dX2_mixRow_30 : decode cX2_mixRow 30 = .ok (.iload_n 3, 1) := by decide +kernel
theorem dX2_mixRow_31 : decode cX2_mixRow 31 = .ok (.invokevirtual 186, 3) := by decide +kernel
theorem dX2_mixRow_34 : decode cX2_mixRow 34 = .ok (.invokestatic 167, 3) := by decide +kernel
theorem dX2_mixRow_37 : decode cX2_mixRow 37 = .ok (.lstore 4, 2) := by decide +kernel
theorem dX2_mixRow_39 : decode cX2_mixRow 39 = .ok (.lload 4, 2) := by decide +kernel
theorem dX2_mixRow_41 : decode cX2_mixRow 41 = .ok (.aload_n 0, 1) := by decide +kernel
theorem dX2_mixRow_42 : decode cX2_mixRow 42 = .ok (.iload_n 3, 1) := by decide +kernel
theorem dX2_mixRow_43 : decode cX2_mixRow 43 = .ok (.invokevirtual 189, 3) := by decide +kernel
theorem dX2_mixRow_46 : decode cX2_mixRow 46 = .ok (.invokestatic 167, 3) := by decide +kernel
theorem dX2_mixRow_49 : decode cX2_mixRow 49 = .ok (.lstore 4, 2) := by decide +kernel
theorem dX2_mixRow_51 : decode cX2_mixRow 51 = .ok (.lload 4, 2) := by decide +kernel
theorem dX2_mixRow_53 : decode cX2_mixRow 53 = .ok (.aload_n 0, 1) := by decide +kernel
theorem dX2_mixRow_54 : decode cX2_mixRow 54 = .ok (.iload_n 3, 1) := by decide +kernel
theorem dX2_mixRow_55 : decode cX2_mixRow 55 = .ok (.invokevirtual 192, 3) := by decide +kernel
theorem dX2_mixRow_58 : decode cX2_mixRow 58 = .ok (.invokestatic 167, 3) := by decide +kernel
theorem dX2_mixRow_61 : decode cX2_mixRow 61 = .ok (.lstore 4, 2) := by decide +kernel
theorem dX2_mixRow_63 : decode cX2_mixRow 63 = .ok (.lload 4, 2) := by decide +kernel
theorem dX2_mixRow_65 : decode cX2_mixRow 65 = .ok (.aload_n 0, 1) := by decide +kernel
theorem dX2_mixRow_66 : decode cX2_mixRow 66 = .ok (.iload_n 3, 1) := by decide +kernel
theorem dX2_mixRow_67 : decode cX2_mixRow 67 = .ok (.invokevirtual 195, 3) := by decide +kernel
theorem dX2_mixRow_70 : decode cX2_mixRow 70 = .ok (.invokestatic 167, 3) := by decide +kernel
theorem dX2_mixRow_73 : decode cX2_mixRow 73 = .ok (.lstore 4, 2) := by decide +kernel
theorem dX2_mixRow_75 : decode cX2_mixRow 75 = .ok (.lload 4, 2) := by decide +kernel
theorem dX2_mixRow_77 : decode cX2_mixRow 77 = .ok (.aload_n 0, 1) := by decide +kernel
theorem dX2_mixRow_78 : decode cX2_mixRow 78 = .ok (.iload_n 3, 1) := by decide +kernel
theorem dX2_mixRow_79 : decode cX2_mixRow 79 = .ok (.invokevirtual 198, 3) := by decide +kernel
theorem dX2_mixRow_82 : decode cX2_mixRow 82 = .ok (.invokestatic 167, 3) := by decide +kernel
theorem dX2_mixRow_85 : decode cX2_mixRow 85 = .ok (.lstore 4, 2) := by decide +kernel
theorem dX2_mixRow_87 : decode cX2_mixRow 87 = .ok (.lload 4, 2) := by decide +kernel
theorem dX2_mixRow_89 : decode cX2_mixRow 89 = .ok (.aload_n 0, 1) := by decide +kernel
theorem dX2_mixRow_90 : decode cX2_mixRow 90 = .ok (.iload_n 3, 1) := by decide +kernel
theorem dX2_mixRow_91 : decode cX2_mixRow 91 = .ok (.invokevirtual 201, 3) := by decide +kernel
theorem dX2_mixRow_94 : decode cX2_mixRow 94 = .ok (.invokestatic 167, 3) := by decide +kernel
theorem dX2_mixRow_97 : decode cX2_mixRow 97 = .ok (.lreturn, 1) := by decide +kernel
set_option maxRecDepth 20000 in
theorem ggX2_mixApple_X2_mix : GoodIn wsX2_mixApple wsX2_mix := goodIn_r _ [9, 10] (by decide +kernel) (by decide +kernel)
set_option maxRecDepth 20000 in
theorem gX2_mixApple_X2_mix : GoodIn wsX2_mixApple (va_wsS RX2 167 yX2_mix wsX2_mix) := goodIn_app (goodIn_of _ (by decide +kernel)) ggX2_mixApple_X2_mix
set_option maxRecDepth 20000 in
theorem ggX2_mixApple_X0_depth : GoodIn wsX2_mixApple wsX0_depth := goodIn_r _ [15, 16, 38, 39, 40, 41, 42, 43] (by decide +kernel) (by decide +kernel)
set_option maxRecDepth 20000 in
theorem gX2_mixApple_X0_depth : GoodIn wsX2_mixApple (wsV RX2 140 RX0 yX0_depth wsX0_depth) := goodIn_app (goodIn_of _ (by decide +kernel)) ggX2_mixApple_X0_depth
set_option maxRecDepth 20000 in
theorem ggX2_mixApple_X2_sizeOrNone : GoodIn wsX2_mixApple wsX2_sizeOrNone := goodIn_r _ [19, 1, 38, 39, 40, 41, 42, 43] (by decide +kernel) (by decide +kernel)
set_option maxRecDepth 20000 in
theorem gX2_mixApple_X2_sizeOrNone : GoodIn wsX2_mixApple (va_wsS RX2 105 yX2_sizeOrNone wsX2_sizeOrNone) := goodIn_app (goodIn_of _ (by decide +kernel)) ggX2_mixApple_X2_sizeOrNone
set_option maxRecDepth 20000 in
theorem ggX2_mixApple_X0_countUnder : GoodIn wsX2_mixApple wsX0_countUnder := goodIn_r _ [23, 24, 25, 26, 14, 27, 28, 29, 30, 31, 32, 33, 34, 35, 36, 37, 16, 38, 39, 40, 41, 42, 43] (by decide +kernel) (by decide +kernel)
set_option maxRecDepth 20000 in
theorem gX2_mixApple_X0_countUnder : GoodIn wsX2_mixApple (wsV RX2 146 RX0 yX0_countUnder wsX0_countUnder) := goodIn_app (goodIn_of _ (by decide +kernel)) ggX2_mixApple_X0_countUnder
theorem dX2_mixApple_0 : decode cX2_mixApple 0 = .ok (.lload_n 0, 1) := by decide +kernel
theorem dX2_mixApple_1 : decode cX2_mixApple 1 = .ok (.lstore_n 3, 1) := by decide +kernel
theorem dX2_mixApple_2 : decode cX2_mixApple 2 = .ok (.lload_n 3, 1) := by decide +kernel
theorem dX2_mixApple_3 : decode cX2_mixApple 3 = .ok (.aload_n 2, 1) := by decide +kernel
theorem dX2_mixApple_4 : decode cX2_mixApple 4 = .ok (.getfield 130, 3) := by decide +kernel
theorem dX2_mixApple_7 : decode cX2_mixApple 7 = .ok (.invokestatic 167, 3) := by decide +kernel
theorem dX2_mixApple_10 : decode cX2_mixApple 10 = .ok (.lstore_n 3, 1) := by decide +kernel
theorem dX2_mixApple_11 : decode cX2_mixApple 11 = .ok (.lload_n 3, 1) := by decide +kernel
theorem dX2_mixApple_12 : decode cX2_mixApple 12 = .ok (.aload_n 2, 1) := by decide +kernel
theorem dX2_mixApple_13 : decode cX2_mixApple 13 = .ok (.invokevirtual 140, 3) := by decide +kernel
theorem dX2_mixApple_16 : decode cX2_mixApple 16 = .ok (.invokestatic 167, 3) := by decide +kernel
theorem dX2_mixApple_19 : decode cX2_mixApple 19 = .ok (.lstore_n 3, 1) := by decide +kernel
theorem dX2_mixApple_20 : decode cX2_mixApple 20 = .ok (.lload_n 3, 1) := by decide +kernel
theorem dX2_mixApple_21 : decode cX2_mixApple 21 = .ok (.aload_n 2, 1) := by decide +kernel
theorem dX2_mixApple_22 : decode cX2_mixApple 22 = .ok (.getfield 143, 3) := by decide +kernel
theorem dX2_mixApple_25 : decode cX2_mixApple 25 = .ok (.invokestatic 105, 3) := by decide +kernel
theorem dX2_mixApple_28 : decode cX2_mixApple 28 = .ok (.invokestatic 167, 3) := by decide +kernel
theorem dX2_mixApple_31 : decode cX2_mixApple 31 = .ok (.lstore_n 3, 1) := by decide +kernel
theorem dX2_mixApple_32 : decode cX2_mixApple 32 = .ok (.lload_n 3, 1) := by decide +kernel
theorem dX2_mixApple_33 : decode cX2_mixApple 33 = .ok (.aload_n 2, 1) := by decide +kernel
theorem dX2_mixApple_34 : decode cX2_mixApple 34 = .ok (.getfield 66, 3) := by decide +kernel
theorem dX2_mixApple_37 : decode cX2_mixApple 37 = .ok (.invokestatic 105, 3) := by decide +kernel
theorem dX2_mixApple_40 : decode cX2_mixApple 40 = .ok (.invokestatic 167, 3) := by decide +kernel
theorem dX2_mixApple_43 : decode cX2_mixApple 43 = .ok (.lstore_n 3, 1) := by decide +kernel
theorem dX2_mixApple_44 : decode cX2_mixApple 44 = .ok (.lload_n 3, 1) := by decide +kernel
theorem dX2_mixApple_45 : decode cX2_mixApple 45 = .ok (.aload_n 2, 1) := by decide +kernel
theorem dX2_mixApple_46 : decode cX2_mixApple 46 = .ok (.getfield 73, 3) := by decide +kernel
theorem dX2_mixApple_49 : decode cX2_mixApple 49 = .ok (.invokestatic 105, 3) := by decide +kernel
theorem dX2_mixApple_52 : decode cX2_mixApple 52 = .ok (.invokestatic 167, 3) := by decide +kernel
theorem dX2_mixApple_55 : decode cX2_mixApple 55 = .ok (.lstore_n 3, 1) := by decide +kernel
theorem dX2_mixApple_56 : decode cX2_mixApple 56 = .ok (.lload_n 3, 1) := by decide +kernel
theorem dX2_mixApple_57 : decode cX2_mixApple 57 = .ok (.aload_n 2, 1) := by decide +kernel
theorem dX2_mixApple_58 : decode cX2_mixApple 58 = .ok (.invokevirtual 146, 3) := by decide +kernel
theorem dX2_mixApple_61 : decode cX2_mixApple 61 = .ok (.invokestatic 167, 3) := by decide +kernel
theorem dX2_mixApple_64 : decode cX2_mixApple 64 = .ok (.lstore_n 3, 1) := by decide +kernel
theorem dX2_mixApple_65 : decode cX2_mixApple 65 = .ok (.lload_n 3, 1) := by decide +kernel
theorem dX2_mixApple_66 : decode cX2_mixApple 66 = .ok (.aload_n 2, 1) := by decide +kernel
theorem dX2_mixApple_67 : decode cX2_mixApple 67 = .ok (.getfield 62, 3) := by decide +kernel
theorem dX2_mixApple_70 : decode cX2_mixApple 70 = .ok (.invokestatic 167, 3) := by decide +kernel
theorem dX2_mixApple_73 : decode cX2_mixApple 73 = .ok (.lreturn, 1) := by decide +kernel
theorem dX2_mix_0 : decode cX2_mix 0 = .ok (.lload_n 0, 1) := by decide +kernel
theorem dX2_mix_1 : decode cX2_mix 1 = .ok (.ldc2_w 204, 3) := by decide +kernel
theorem dX2_mix_4 : decode cX2_mix 4 = .ok (.lmul, 1) := by decide +kernel
theorem dX2_mix_5 : decode cX2_mix 5 = .ok (.iload_n 2, 1) := by decide +kernel
theorem dX2_mix_6 : decode cX2_mix 6 = .ok (.i2l, 1) := by decide +kernel
theorem dX2_mix_7 : decode cX2_mix 7 = .ok (.ladd, 1) := by decide +kernel
theorem dX2_mix_8 : decode cX2_mix 8 = .ok (.lreturn, 1) := by decide +kernel
theorem dX2_treeOf_0 : decode cX2_treeOf 0 = .ok (.iload_n 1, 1) := by decide +kernel
theorem dX2_treeOf_1 : decode cX2_treeOf 1 = .ok (.ifCond .lt 12, 3) := by decide +kernel
theorem dX2_treeOf_4 : decode cX2_treeOf 4 = .ok (.iload_n 1, 1) := by decide +kernel
theorem dX2_treeOf_5 : decode cX2_treeOf 5 = .ok (.aload_n 0, 1) := by decide +kernel
theorem dX2_treeOf_6 : decode cX2_treeOf 6 = .ok (.getfield 11, 3) := by decide +kernel
theorem dX2_treeOf_9 : decode cX2_treeOf 9 = .ok (.arraylength, 1) := by decide +kernel
theorem dX2_treeOf_10 : decode cX2_treeOf 10 = .ok (.if_icmp .lt 13, 3) := by decide +kernel
theorem dX2_treeOf_13 : decode cX2_treeOf 13 = .ok (.new 125, 3) := by decide +kernel
theorem dX2_treeOf_16 : decode cX2_treeOf 16 = .ok (.dup, 1) := by decide +kernel
theorem dX2_treeOf_17 : decode cX2_treeOf 17 = .ok (.ldc 206, 2) := by decide +kernel
theorem dX2_treeOf_19 : decode cX2_treeOf 19 = .ok (.invokespecial 129, 3) := by decide +kernel
theorem dX2_treeOf_22 : decode cX2_treeOf 22 = .ok (.athrow, 1) := by decide +kernel
theorem dX2_treeOf_23 : decode cX2_treeOf 23 = .ok (.aload_n 0, 1) := by decide +kernel
theorem dX2_treeOf_24 : decode cX2_treeOf 24 = .ok (.getfield 11, 3) := by decide +kernel
theorem dX2_treeOf_27 : decode cX2_treeOf 27 = .ok (.iload_n 1, 1) := by decide +kernel
theorem dX2_treeOf_28 : decode cX2_treeOf 28 = .ok (.aaload, 1) := by decide +kernel
theorem dX2_treeOf_29 : decode cX2_treeOf 29 = .ok (.areturn, 1) := by decide +kernel
theorem dX2_checkSize_0 : decode cX2_checkSize 0 = .ok (.iload_n 0, 1) := by decide +kernel
theorem dX2_checkSize_1 : decode cX2_checkSize 1 = .ok (.ifCond .lt 10, 3) := by decide +kernel
theorem dX2_checkSize_4 : decode cX2_checkSize 4 = .ok (.iload_n 0, 1) := by decide +kernel
theorem dX2_checkSize_5 : decode cX2_checkSize 5 = .ok (.sipush 999, 3) := by decide +kernel
theorem dX2_checkSize_8 : decode cX2_checkSize 8 = .ok (.if_icmp .le 13, 3) := by decide +kernel
theorem dX2_checkSize_11 : decode cX2_checkSize 11 = .ok (.new 208, 3) := by decide +kernel
theorem dX2_checkSize_14 : decode cX2_checkSize 14 = .ok (.dup, 1) := by decide +kernel
theorem dX2_checkSize_15 : decode cX2_checkSize 15 = .ok (.ldc 210, 2) := by decide +kernel
theorem dX2_checkSize_17 : decode cX2_checkSize 17 = .ok (.invokespecial 212, 3) := by decide +kernel
theorem dX2_checkSize_20 : decode cX2_checkSize 20 = .ok (.athrow, 1) := by decide +kernel
theorem dX2_checkSize_21 : decode cX2_checkSize 21 = .ok (.return_, 1) := by decide +kernel
set_option maxRecDepth 20000 in
theorem ggX2_appleOf_X1_find : GoodIn wsX2_appleOf wsX1_find := goodIn_r _ [7, 8, 9, 10, 11, 6, 12, 13, 14, 15, 16, 17, 18, 19, 20, 21, 22, 23, 24, 25, 26, 27, 28] (by decide +kernel) (by decide +kernel)
set_option maxRecDepth 20000 in
theorem gX2_appleOf_X1_find : GoodIn wsX2_appleOf (wsV RX2 39 RX1 yX1_find wsX1_find) := goodIn_app (goodIn_of _ (by decide +kernel)) ggX2_appleOf_X1_find
theorem dX2_appleOf_0 : decode cX2_appleOf 0 = .ok (.aload_n 0, 1) := by decide +kernel
theorem dX2_appleOf_1 : decode cX2_appleOf 1 = .ok (.iload_n 1, 1) := by decide +kernel
theorem dX2_appleOf_2 : decode cX2_appleOf 2 = .ok (.invokevirtual 39, 3) := by decide +kernel
theorem dX2_appleOf_5 : decode cX2_appleOf 5 = .ok (.astore_n 2, 1) := by decide +kernel
theorem dX2_appleOf_6 : decode cX2_appleOf 6 = .ok (.aload_n 2, 1) := by decide +kernel
theorem dX2_appleOf_7 : decode cX2_appleOf 7 = .ok (.ifnonnull 13, 3) := by decide +kernel
theorem dX2_appleOf_10 : decode cX2_appleOf 10 = .ok (.new 32, 3) := by decide +kernel
theorem dX2_appleOf_13 : decode cX2_appleOf 13 = .ok (.dup, 1) := by decide +kernel
theorem dX2_appleOf_14 : decode cX2_appleOf 14 = .ok (.ldc 213, 2) := by decide +kernel
theorem dX2_appleOf_16 : decode cX2_appleOf 16 = .ok (.invokespecial 36, 3) := by decide +kernel
theorem dX2_appleOf_19 : decode cX2_appleOf 19 = .ok (.athrow, 1) := by decide +kernel
theorem dX2_appleOf_20 : decode cX2_appleOf 20 = .ok (.aload_n 2, 1) := by decide +kernel
theorem dX2_appleOf_21 : decode cX2_appleOf 21 = .ok (.areturn, 1) := by decide +kernel
theorem dX2_sizeOrNone_0 : decode cX2_sizeOrNone 0 = .ok (.aload_n 0, 1) := by decide +kernel
theorem dX2_sizeOrNone_1 : decode cX2_sizeOrNone 1 = .ok (.ifnonnull 7, 3) := by decide +kernel
theorem dX2_sizeOrNone_4 : decode cX2_sizeOrNone 4 = .ok (.iconst (-1), 1) := by decide +kernel
theorem dX2_sizeOrNone_5 : decode cX2_sizeOrNone 5 = .ok (.goto 7, 3) := by decide +kernel
theorem dX2_sizeOrNone_8 : decode cX2_sizeOrNone 8 = .ok (.aload_n 0, 1) := by decide +kernel
theorem dX2_sizeOrNone_9 : decode cX2_sizeOrNone 9 = .ok (.getfield 130, 3) := by decide +kernel
theorem dX2_sizeOrNone_12 : decode cX2_sizeOrNone 12 = .ok (.ireturn, 1) := by decide +kernel
set_option maxRecDepth 20000 in
theorem ggX2_mayJoin_X1_last : GoodIn wsX2_mayJoin wsX1_last := goodIn_r _ [6, 7, 8, 9, 10, 11, 12, 13, 29, 23, 24, 25, 26, 27, 28] (by decide +kernel) (by decide +kernel)
set_option maxRecDepth 20000 in
theorem gX2_mayJoin_X1_last : GoodIn wsX2_mayJoin (wsV RX2 119 RX1 yX1_last wsX1_last) := goodIn_app (goodIn_of _ (by decide +kernel)) ggX2_mayJoin_X1_last
set_option maxRecDepth 20000 in
theorem ggX2_mayJoin_X1_first : GoodIn wsX2_mayJoin wsX1_first := goodIn_r _ [17, 7, 18, 19, 20, 11, 21, 22, 29, 23, 24, 25, 26, 27, 28] (by decide +kernel) (by decide +kernel)
set_option maxRecDepth 20000 in
theorem gX2_mayJoin_X1_first : GoodIn wsX2_mayJoin (wsV RX2 115 RX1 yX1_first wsX1_first) := goodIn_app (goodIn_of _ (by decide +kernel)) ggX2_mayJoin_X1_first
theorem dX2_mayJoin_0 : decode cX2_mayJoin 0 = .ok (.aload_n 0, 1) := by decide +kernel
theorem dX2_mayJoin_1 : decode cX2_mayJoin 1 = .ok (.aload_n 1, 1) := by decide +kernel
theorem dX2_mayJoin_2 : decode cX2_mayJoin 2 = .ok (.if_acmp .ne 5, 3) := by decide +kernel
theorem dX2_mayJoin_5 : decode cX2_mayJoin 5 = .ok (.iconst 0, 1) := by decide +kernel
theorem dX2_mayJoin_6 : decode cX2_mayJoin 6 = .ok (.ireturn, 1) := by decide +kernel
theorem dX2_mayJoin_7 : decode cX2_mayJoin 7 = .ok (.aload_n 0, 1) := by decide +kernel
theorem dX2_mayJoin_8 : decode cX2_mayJoin 8 = .ok (.invokevirtual 119, 3) := by decide +kernel
theorem dX2_mayJoin_11 : decode cX2_mayJoin 11 = .ok (.astore_n 2, 1) := by decide +kernel
theorem dX2_mayJoin_12 : decode cX2_mayJoin 12 = .ok (.aload_n 1, 1) := by decide +kernel
theorem dX2_mayJoin_13 : decode cX2_mayJoin 13 = .ok (.invokevirtual 115, 3) := by decide +kernel
theorem dX2_mayJoin_16 : decode cX2_mayJoin 16 = .ok (.astore_n 3, 1) := by decide +kernel
theorem dX2_mayJoin_17 : decode cX2_mayJoin 17 = .ok (.aload_n 2, 1) := by decide +kernel
theorem dX2_mayJoin_18 : decode cX2_mayJoin 18 = .ok (.ifnull 18, 3) := by decide +kernel
theorem dX2_mayJoin_21 : decode cX2_mayJoin 21 = .ok (.aload_n 3, 1) := by decide +kernel
theorem dX2_mayJoin_22 : decode cX2_mayJoin 22 = .ok (.ifnull 14, 3) := by decide +kernel
theorem dX2_mayJoin_25 : decode cX2_mayJoin 25 = .ok (.aload_n 2, 1) := by decide +kernel
theorem dX2_mayJoin_26 : decode cX2_mayJoin 26 = .ok (.getfield 130, 3) := by decide +kernel
theorem dX2_mayJoin_29 : decode cX2_mayJoin 29 = .ok (.aload_n 3, 1) := by decide +kernel
theorem dX2_mayJoin_30 : decode cX2_mayJoin 30 = .ok (.getfield 130, 3) := by decide +kernel
theorem dX2_mayJoin_33 : decode cX2_mayJoin 33 = .ok (.if_icmp .ge 7, 3) := by decide +kernel
theorem dX2_mayJoin_36 : decode cX2_mayJoin 36 = .ok (.iconst 1, 1) := by decide +kernel
theorem dX2_mayJoin_37 : decode cX2_mayJoin 37 = .ok (.goto 4, 3) := by decide +kernel
theorem dX2_mayJoin_40 : decode cX2_mayJoin 40 = .ok (.iconst 0, 1) := by decide +kernel
theorem dX2_mayJoin_41 : decode cX2_mayJoin 41 = .ok (.ireturn, 1) := by decide +kernel
set_option maxRecDepth 20000 in
theorem ggX2_bringUp_X1_bringUp : GoodIn wsX2_bringUp wsX1_bringUp := goodIn_r _ [6, 7, 8, 9, 10, 11, 12, 13, 14, 15, 16, 17, 18, 19, 20, 21, 22, 23, 24, 25, 26, 27, 28, 29, 30, 31, 32, 33, 37, 38, 39, 40, 41, 42, 43] (by decide +kernel) (by decide +kernel)
set_option maxRecDepth 20000 in
theorem gX2_bringUp_X1_bringUp : GoodIn wsX2_bringUp (wsV RX2 215 RX1 yX1_bringUp wsX1_bringUp) := goodIn_app (goodIn_of _ (by decide +kernel)) ggX2_bringUp_X1_bringUp
theorem dX2_bringUp_0 : decode cX2_bringUp 0 = .ok (.aload_n 1, 1) := by decide +kernel
theorem dX2_bringUp_1 : decode cX2_bringUp 1 = .ok (.aload_n 2, 1) := by decide +kernel
theorem dX2_bringUp_2 : decode cX2_bringUp 2 = .ok (.invokevirtual 215, 3) := by decide +kernel
theorem dX2_bringUp_5 : decode cX2_bringUp 5 = .ok (.istore_n 3, 1) := by decide +kernel
theorem dX2_bringUp_6 : decode cX2_bringUp 6 = .ok (.aload_n 0, 1) := by decide +kernel
theorem dX2_bringUp_7 : decode cX2_bringUp 7 = .ok (.dup, 1) := by decide +kernel
theorem dX2_bringUp_8 : decode cX2_bringUp 8 = .ok (.getfield 102, 3) := by decide +kernel
theorem dX2_bringUp_11 : decode cX2_bringUp 11 = .ok (.iload_n 3, 1) := by decide +kernel
theorem dX2_bringUp_12 : decode cX2_bringUp 12 = .ok (.iadd, 1) := by decide +kernel
theorem dX2_bringUp_13 : decode cX2_bringUp 13 = .ok (.putfield 102, 3) := by decide +kernel
theorem dX2_bringUp_16 : decode cX2_bringUp 16 = .ok (.iload_n 3, 1) := by decide +kernel
theorem dX2_bringUp_17 : decode cX2_bringUp 17 = .ok (.ireturn, 1) := by decide +kernel
set_option maxRecDepth 20000 in
theorem ggX2_append_X1_last : GoodIn wsX2_append wsX1_last := goodIn_r _ [5, 6, 7, 8, 9, 10, 11, 12, 52, 53, 54, 55, 56, 57, 58] (by decide +kernel) (by decide +kernel)
set_option maxRecDepth 20000 in
theorem gX2_append_X1_last : GoodIn wsX2_append (wsV RX2 119 RX1 yX1_last wsX1_last) := goodIn_app (goodIn_of _ (by decide +kernel)) ggX2_append_X1_last
set_option maxRecDepth 20000 in
theorem ggX2_append_X1_setTop : GoodIn wsX2_append wsX1_setTop := goodIn_r _ [16, 6, 17, 52, 53, 54, 55, 56, 57, 58] (by decide +kernel) (by decide +kernel)
set_option maxRecDepth 20000 in
theorem gX2_append_X1_setTop : GoodIn wsX2_append (wsV RX2 70 RX1 yX1_setTop wsX1_setTop) := goodIn_app (goodIn_of _ (by decide +kernel)) ggX2_append_X1_setTop
set_option maxRecDepth 20000 in
theorem ggX2_append_X2_bringUp : GoodIn wsX2_append wsX2_bringUp := goodIn_r _ [22, 23, 24, 25, 26, 4, 27, 17, 6, 28, 29, 30, 10, 31, 32, 33, 34, 35, 36, 37, 38, 39, 40, 41, 12, 42, 43, 44, 45, 46, 47, 48, 49, 50, 59, 60, 61, 53, 54, 55, 56, 57, 58, 52] (by decide +kernel) (by decide +kernel)
set_option maxRecDepth 20000 in
theorem gX2_append_X2_bringUp : GoodIn wsX2_append (wsV RX2 54 RX2 yX2_bringUp wsX2_bringUp) := goodIn_app (goodIn_of _ (by decide +kernel)) ggX2_append_X2_bringUp
set_option maxRecDepth 20000 in
theorem ggX2_append_X0_hangRight : GoodIn wsX2_append wsX0_hangRight := goodIn_r _ [50, 12, 32, 53, 54, 55, 56, 57, 58] (by decide +kernel) (by decide +kernel)
set_option maxRecDepth 20000 in
theorem gX2_append_X0_hangRight : GoodIn wsX2_append (wsV RX2 90 RX0 yX0_hangRight wsX0_hangRight) := goodIn_app (goodIn_of _ (by decide +kernel)) ggX2_append_X0_hangRight
theorem dX2_append_0 : decode cX2_append 0 = .ok (.aload_n 1, 1) := by decide +kernel
theorem dX2_append_1 : decode cX2_append 1 = .ok (.invokevirtual 119, 3) := by decide +kernel
theorem dX2_append_4 : decode cX2_append 4 = .ok (.astore_n 3, 1) := by decide +kernel
theorem dX2_append_5 : decode cX2_append 5 = .ok (.aload_n 3, 1) := by decide +kernel
theorem dX2_append_6 : decode cX2_append 6 = .ok (.ifnonnull 11, 3) := by decide +kernel
theorem dX2_append_9 : decode cX2_append 9 = .ok (.aload_n 1, 1) := by decide +kernel
theorem dX2_append_10 : decode cX2_append 10 = .ok (.aload_n 2, 1) := by decide +kernel
theorem dX2_append_11 : decode cX2_append 11 = .ok (.invokevirtual 70, 3) := by decide +kernel
theorem dX2_append_14 : decode cX2_append 14 = .ok (.goto 15, 3) := by decide +kernel
theorem dX2_append_17 : decode cX2_append 17 = .ok (.aload_n 0, 1) := by decide +kernel
theorem dX2_append_18 : decode cX2_append 18 = .ok (.aload_n 1, 1) := by decide +kernel
theorem dX2_append_19 : decode cX2_append 19 = .ok (.aload_n 3, 1) := by decide +kernel
theorem dX2_append_20 : decode cX2_append 20 = .ok (.invokevirtual 54, 3) := by decide +kernel
theorem dX2_append_23 : decode cX2_append 23 = .ok (.pop, 1) := by decide +kernel
theorem dX2_append_24 : decode cX2_append 24 = .ok (.aload_n 3, 1) := by decide +kernel
theorem dX2_append_25 : decode cX2_append 25 = .ok (.aload_n 2, 1) := by decide +kernel
theorem dX2_append_26 : decode cX2_append 26 = .ok (.invokevirtual 90, 3) := by decide +kernel
theorem dX2_append_29 : decode cX2_append 29 = .ok (.return_, 1) := by decide +kernel
set_option maxRecDepth 20000 in
theorem ggX2_tryEating_X1_standInFor : GoodIn wsX2_tryEating wsX1_standInFor := goodIn_r _ [7, 8, 9, 10, 11, 6, 12, 13, 14, 15, 16, 17, 18, 19, 20, 21, 22, 23, 24, 25, 26, 27, 28, 29, 30, 31, 32, 33, 34, 70, 64, 65, 66, 67, 68, 69] (by decide +kernel) (by decide +kernel)
set_option maxRecDepth 20000 in
theorem gX2_tryEating_X1_standInFor : GoodIn wsX2_tryEating (wsV RX2 217 RX1 yX1_standInFor wsX1_standInFor) := goodIn_app (goodIn_of _ (by decide +kernel)) ggX2_tryEating_X1_standInFor
set_option maxRecDepth 20000 in
theorem ggX2_tryEating_X1_bringUp : GoodIn wsX2_tryEating wsX1_bringUp := goodIn_r _ [38, 39, 8, 40, 41, 42, 16, 43, 24, 44, 45, 46, 47, 18, 48, 49, 50, 51, 25, 52, 53, 54, 55, 56, 57, 58, 59, 60, 64, 65, 66, 67, 68, 69, 70] (by decide +kernel) (by decide +kernel)
set_option maxRecDepth 20000 in
theorem gX2_tryEating_X1_bringUp : GoodIn wsX2_tryEating (wsV RX2 215 RX1 yX1_bringUp wsX1_bringUp) := goodIn_app (goodIn_of _ (by decide +kernel)) ggX2_tryEating_X1_bringUp
theorem dX2_tryEating_0 : decode cX2_tryEating 0 = .ok (.aload_n 0, 1) := by decide +kernel
theorem dX2_tryEating_1 : decode cX2_tryEating 1 = .ok (.getfield 16, 3) := by decide +kernel
theorem dX2_tryEating_4 : decode cX2_tryEating 4 = .ok (.aload_n 1, 1) := by decide +kernel
theorem dX2_tryEating_5 : decode cX2_tryEating 5 = .ok (.invokevirtual 217, 3) := by decide +kernel
theorem dX2_tryEating_8 : decode cX2_tryEating 8 = .ok (.aload_n 2, 1) := by decide +kernel
theorem dX2_tryEating_9 : decode cX2_tryEating 9 = .ok (.getfield 221, 3) := by decide +kernel
theorem dX2_tryEating_12 : decode cX2_tryEating 12 = .ok (.astore_n 3, 1) := by decide +kernel
theorem dX2_tryEating_13 : decode cX2_tryEating 13 = .ok (.aload_n 3, 1) := by decide +kernel
theorem dX2_tryEating_14 : decode cX2_tryEating 14 = .ok (.ifnull 12, 3) := by decide +kernel
theorem dX2_tryEating_17 : decode cX2_tryEating 17 = .ok (.aload_n 0, 1) := by decide +kernel
theorem dX2_tryEating_18 : decode cX2_tryEating 18 = .ok (.getfield 16, 3) := by decide +kernel
theorem dX2_tryEating_21 : decode cX2_tryEating 21 = .ok (.aload_n 3, 1) := by decide +kernel
theorem dX2_tryEating_22 : decode cX2_tryEating 22 = .ok (.invokevirtual 215, 3) := by decide +kernel
theorem dX2_tryEating_25 : decode cX2_tryEating 25 = .ok (.pop, 1) := by decide +kernel
theorem dX2_tryEating_26 : decode cX2_tryEating 26 = .ok (.return_, 1) := by decide +kernel
theorem dX3_init_0 : decode cX3_init 0 = .ok (.aload_n 0, 1) := by decide +kernel
theorem dX3_init_1 : decode cX3_init 1 = .ok (.invokespecial 3, 3) := by decide +kernel
theorem dX3_init_4 : decode cX3_init 4 = .ok (.aload_n 0, 1) := by decide +kernel
theorem dX3_init_5 : decode cX3_init 5 = .ok (.sipush 206, 3) := by decide +kernel
theorem dX3_init_8 : decode cX3_init 8 = .ok (.newarray .int, 2) := by decide +kernel
theorem dX3_init_10 : decode cX3_init 10 = .ok (.putfield 9, 3) := by decide +kernel
theorem dX3_init_13 : decode cX3_init 13 = .ok (.aload_n 0, 1) := by decide +kernel
theorem dX3_init_14 : decode cX3_init 14 = .ok (.sipush 206, 3) := by decide +kernel
theorem dX3_init_17 : decode cX3_init 17 = .ok (.newarray .int, 2) := by decide +kernel
theorem dX3_init_19 : decode cX3_init 19 = .ok (.putfield 13, 3) := by decide +kernel
theorem dX3_init_22 : decode cX3_init 22 = .ok (.iconst 0, 1) := by decide +kernel
theorem dX3_init_23 : decode cX3_init 23 = .ok (.istore_n 1, 1) := by decide +kernel
theorem dX3_init_24 : decode cX3_init 24 = .ok (.iload_n 1, 1) := by decide +kernel
theorem dX3_init_25 : decode cX3_init 25 = .ok (.sipush 206, 3) := by decide +kernel
theorem dX3_init_28 : decode cX3_init 28 = .ok (.if_icmp .ge 16, 3) := by decide +kernel
theorem dX3_init_31 : decode cX3_init 31 = .ok (.aload_n 0, 1) := by decide +kernel
theorem dX3_init_32 : decode cX3_init 32 = .ok (.getfield 9, 3) := by decide +kernel
theorem dX3_init_35 : decode cX3_init 35 = .ok (.iload_n 1, 1) := by decide +kernel
theorem dX3_init_36 : decode cX3_init 36 = .ok (.iconst (-1), 1) := by decide +kernel
theorem dX3_init_37 : decode cX3_init 37 = .ok (.iastore, 1) := by decide +kernel
theorem dX3_init_38 : decode cX3_init 38 = .ok (.iinc 1 1, 3) := by decide +kernel
theorem dX3_init_41 : decode cX3_init 41 = .ok (.goto (-17), 3) := by decide +kernel
theorem dX3_init_44 : decode cX3_init 44 = .ok (.return_, 1) := by decide +kernel
theorem dX3_thrown_0 : decode cX3_thrown 0 = .ok (.aload_n 0, 1) := by decide +kernel
theorem dX3_thrown_1 : decode cX3_thrown 1 = .ok (.getfield 16, 3) := by decide +kernel
theorem dX3_thrown_4 : decode cX3_thrown 4 = .ok (.ireturn, 1) := by decide +kernel
theorem dX3_no_0 : decode cX3_no 0 = .ok (.aload_n 0, 1) := by decide +kernel
theorem dX3_no_1 : decode cX3_no 1 = .ok (.iload_n 1, 1) := by decide +kernel
theorem dX3_no_2 : decode cX3_no 2 = .ok (.putfield 16, 3) := by decide +kernel
theorem dX3_no_5 : decode cX3_no 5 = .ok (.iconst 0, 1) := by decide +kernel
theorem dX3_no_6 : decode cX3_no 6 = .ok (.ireturn, 1) := by decide +kernel
theorem dX3_isNot_0 : decode cX3_isNot 0 = .ok (.aload_n 0, 1) := by decide +kernel
theorem dX3_isNot_1 : decode cX3_isNot 1 = .ok (.iload_n 1, 1) := by decide +kernel
theorem dX3_isNot_2 : decode cX3_isNot 2 = .ok (.putfield 16, 3) := by decide +kernel
theorem dX3_isNot_5 : decode cX3_isNot 5 = .ok (.iconst 0, 1) := by decide +kernel
theorem dX3_isNot_6 : decode cX3_isNot 6 = .ok (.ireturn, 1) := by decide +kernel
theorem dX3_ok_0 : decode cX3_ok 0 = .ok (.aload_n 0, 1) := by decide +kernel
theorem dX3_ok_1 : decode cX3_ok 1 = .ok (.iconst 0, 1) := by decide +kernel
theorem dX3_ok_2 : decode cX3_ok 2 = .ok (.putfield 16, 3) := by decide +kernel
theorem dX3_ok_5 : decode cX3_ok 5 = .ok (.iload_n 1, 1) := by decide +kernel
theorem dX3_ok_6 : decode cX3_ok 6 = .ok (.ireturn, 1) := by decide +kernel
theorem dX3_isRow_0 : decode cX3_isRow 0 = .ok (.iload_n 0, 1) := by decide +kernel
theorem dX3_isRow_1 : decode cX3_isRow 1 = .ok (.ifCond .lt 13, 3) := by decide +kernel
theorem dX3_isRow_4 : decode cX3_isRow 4 = .ok (.iload_n 0, 1) := by decide +kernel
theorem dX3_isRow_5 : decode cX3_isRow 5 = .ok (.bipush 6, 2) := by decide +kernel
theorem dX3_isRow_7 : decode cX3_isRow 7 = .ok (.if_icmp .ge 7, 3) := by decide +kernel
theorem dX3_isRow_10 : decode cX3_isRow 10 = .ok (.iconst 1, 1) := by decide +kernel
theorem dX3_isRow_11 : decode cX3_isRow 11 = .ok (.goto 4, 3) := by decide +kernel
theorem dX3_isRow_14 : decode cX3_isRow 14 = .ok (.iconst 0, 1) := by decide +kernel
theorem dX3_isRow_15 : decode cX3_isRow 15 = .ok (.ireturn, 1) := by decide +kernel
theorem dX3_isSize_0 : decode cX3_isSize 0 = .ok (.iload_n 0, 1) := by decide +kernel
theorem dX3_isSize_1 : decode cX3_isSize 1 = .ok (.ifCond .lt 14, 3) := by decide +kernel
theorem dX3_isSize_4 : decode cX3_isSize 4 = .ok (.iload_n 0, 1) := by decide +kernel
theorem dX3_isSize_5 : decode cX3_isSize 5 = .ok (.sipush 999, 3) := by decide +kernel
theorem dX3_isSize_8 : decode cX3_isSize 8 = .ok (.if_icmp .gt 7, 3) := by decide +kernel
theorem dX3_isSize_11 : decode cX3_isSize 11 = .ok (.iconst 1, 1) := by decide +kernel
theorem dX3_isSize_12 : decode cX3_isSize 12 = .ok (.goto 4, 3) := by decide +kernel
theorem dX3_isSize_15 : decode cX3_isSize 15 = .ok (.iconst 0, 1) := by decide +kernel
theorem dX3_isSize_16 : decode cX3_isSize 16 = .ok (.ireturn, 1) := by decide +kernel
theorem dX3_keep_0 : decode cX3_keep 0 = .ok (.aload_n 0, 1) := by decide +kernel
theorem dX3_keep_1 : decode cX3_keep 1 = .ok (.getfield 9, 3) := by decide +kernel
theorem dX3_keep_4 : decode cX3_keep 4 = .ok (.iconst 0, 1) := by decide +kernel
theorem dX3_keep_5 : decode cX3_keep 5 = .ok (.aload_n 0, 1) := by decide +kernel
theorem dX3_keep_6 : decode cX3_keep 6 = .ok (.getfield 13, 3) := by decide +kernel
theorem dX3_keep_9 : decode cX3_keep 9 = .ok (.iconst 0, 1) := by decide +kernel
theorem dX3_keep_10 : decode cX3_keep 10 = .ok (.sipush 206, 3) := by decide +kernel
theorem dX3_keep_13 : decode cX3_keep 13 = .ok (.invokestatic 20, 3) := by decide +kernel
theorem dX3_keep_16 : decode cX3_keep 16 = .ok (.aload_n 0, 1) := by decide +kernel
theorem dX3_keep_17 : decode cX3_keep 17 = .ok (.aload_n 0, 1) := by decide +kernel
theorem dX3_keep_18 : decode cX3_keep 18 = .ok (.getfield 26, 3) := by decide +kernel
theorem dX3_keep_21 : decode cX3_keep 21 = .ok (.putfield 29, 3) := by decide +kernel
theorem dX3_keep_24 : decode cX3_keep 24 = .ok (.return_, 1) := by decide +kernel
theorem dX3_bringBack_0 : decode cX3_bringBack 0 = .ok (.aload_n 0, 1) := by decide +kernel
theorem dX3_bringBack_1 : decode cX3_bringBack 1 = .ok (.getfield 13, 3) := by decide +kernel
theorem dX3_bringBack_4 : decode cX3_bringBack 4 = .ok (.iconst 0, 1) := by decide +kernel
theorem dX3_bringBack_5 : decode cX3_bringBack 5 = .ok (.aload_n 0, 1) := by decide +kernel
theorem dX3_bringBack_6 : decode cX3_bringBack 6 = .ok (.getfield 9, 3) := by decide +kernel
theorem dX3_bringBack_9 : decode cX3_bringBack 9 = .ok (.iconst 0, 1) := by decide +kernel
theorem dX3_bringBack_10 : decode cX3_bringBack 10 = .ok (.sipush 206, 3) := by decide +kernel
theorem dX3_bringBack_13 : decode cX3_bringBack 13 = .ok (.invokestatic 20, 3) := by decide +kernel
theorem dX3_bringBack_16 : decode cX3_bringBack 16 = .ok (.aload_n 0, 1) := by decide +kernel
theorem dX3_bringBack_17 : decode cX3_bringBack 17 = .ok (.aload_n 0, 1) := by decide +kernel
theorem dX3_bringBack_18 : decode cX3_bringBack 18 = .ok (.getfield 29, 3) := by decide +kernel
theorem dX3_bringBack_21 : decode cX3_bringBack 21 = .ok (.putfield 26, 3) := by decide +kernel
theorem dX3_bringBack_24 : decode cX3_bringBack 24 = .ok (.return_, 1) := by decide +kernel
theorem dX3_find_0 : decode cX3_find 0 = .ok (.aload_n 0, 1) := by decide +kernel
theorem dX3_find_1 : decode cX3_find 1 = .ok (.getfield 9, 3) := by decide +kernel
theorem dX3_find_4 : decode cX3_find 4 = .ok (.sipush 200, 3) := by decide +kernel
theorem dX3_find_7 : decode cX3_find 7 = .ok (.iload_n 1, 1) := by decide +kernel
theorem dX3_find_8 : decode cX3_find 8 = .ok (.iadd, 1) := by decide +kernel
theorem dX3_find_9 : decode cX3_find 9 = .ok (.iaload, 1) := by decide +kernel
theorem dX3_find_10 : decode cX3_find 10 = .ok (.istore_n 3, 1) := by decide +kernel
theorem dX3_find_11 : decode cX3_find 11 = .ok (.iload_n 3, 1) := by decide +kernel
theorem dX3_find_12 : decode cX3_find 12 = .ok (.iconst (-1), 1) := by decide +kernel
theorem dX3_find_13 : decode cX3_find 13 = .ok (.if_icmp .eq 45, 3) := by decide +kernel
theorem dX3_find_16 : decode cX3_find 16 = .ok (.aload_n 0, 1) := by decide +kernel
theorem dX3_find_17 : decode cX3_find 17 = .ok (.getfield 9, 3) := by decide +kernel
theorem dX3_find_20 : decode cX3_find 20 = .ok (.iconst 0, 1) := by decide +kernel
theorem dX3_find_21 : decode cX3_find 21 = .ok (.iload_n 3, 1) := by decide +kernel
theorem dX3_find_22 : decode cX3_find 22 = .ok (.iadd, 1) := by decide +kernel
theorem dX3_find_23 : decode cX3_find 23 = .ok (.iaload, 1) := by decide +kernel
theorem dX3_find_24 : decode cX3_find 24 = .ok (.iload_n 2, 1) := by decide +kernel
theorem dX3_find_25 : decode cX3_find 25 = .ok (.if_icmp .eq 33, 3) := by decide +kernel
theorem dX3_find_28 : decode cX3_find 28 = .ok (.aload_n 0, 1) := by decide +kernel
theorem dX3_find_29 : decode cX3_find 29 = .ok (.getfield 9, 3) := by decide +kernel
theorem dX3_find_32 : decode cX3_find 32 = .ok (.iload_n 2, 1) := by decide +kernel
theorem dX3_find_33 : decode cX3_find 33 = .ok (.aload_n 0, 1) := by decide +kernel
theorem dX3_find_34 : decode cX3_find 34 = .ok (.getfield 9, 3) := by decide +kernel
theorem dX3_find_37 : decode cX3_find 37 = .ok (.iconst 0, 1) := by decide +kernel
theorem dX3_find_38 : decode cX3_find 38 = .ok (.iload_n 3, 1) := by decide +kernel
theorem dX3_find_39 : decode cX3_find 39 = .ok (.iadd, 1) := by decide +kernel
theorem dX3_find_40 : decode cX3_find 40 = .ok (.iaload, 1) := by decide +kernel
theorem dX3_find_41 : decode cX3_find 41 = .ok (.if_icmp .ge 8, 3) := by decide +kernel
theorem dX3_find_44 : decode cX3_find 44 = .ok (.bipush 40, 2) := by decide +kernel
theorem dX3_find_46 : decode cX3_find 46 = .ok (.goto 5, 3) := by decide +kernel
theorem dX3_find_49 : decode cX3_find 49 = .ok (.bipush 80, 2) := by decide +kernel
theorem dX3_find_51 : decode cX3_find 51 = .ok (.iload_n 3, 1) := by decide +kernel
theorem dX3_find_52 : decode cX3_find 52 = .ok (.iadd, 1) := by decide +kernel
theorem dX3_find_53 : decode cX3_find 53 = .ok (.iaload, 1) := by decide +kernel
theorem dX3_find_54 : decode cX3_find 54 = .ok (.istore_n 3, 1) := by decide +kernel
theorem dX3_find_55 : decode cX3_find 55 = .ok (.goto (-44), 3) := by decide +kernel
theorem dX3_find_58 : decode cX3_find 58 = .ok (.iload_n 3, 1) := by decide +kernel
theorem dX3_find_59 : decode cX3_find 59 = .ok (.ireturn, 1) := by decide +kernel
theorem dX3_deep_0 : decode cX3_deep 0 = .ok (.iconst 0, 1) := by decide +kernel
theorem dX3_deep_1 : decode cX3_deep 1 = .ok (.istore_n 2, 1) := by decide +kernel
theorem dX3_deep_2 : decode cX3_deep 2 = .ok (.aload_n 0, 1) := by decide +kernel
theorem dX3_deep_3 : decode cX3_deep 3 = .ok (.getfield 9, 3) := by decide +kernel
theorem dX3_deep_6 : decode cX3_deep 6 = .ok (.bipush 120, 2) := by decide +kernel
theorem dX3_deep_8 : decode cX3_deep 8 = .ok (.iload_n 1, 1) := by decide +kernel
theorem dX3_deep_9 : decode cX3_deep 9 = .ok (.iadd, 1) := by decide +kernel
theorem dX3_deep_10 : decode cX3_deep 10 = .ok (.iaload, 1) := by decide +kernel
theorem dX3_deep_11 : decode cX3_deep 11 = .ok (.istore_n 3, 1) := by decide +kernel
theorem dX3_deep_12 : decode cX3_deep 12 = .ok (.iload_n 3, 1) := by decide +kernel
theorem dX3_deep_13 : decode cX3_deep 13 = .ok (.iconst (-1), 1) := by decide +kernel
theorem dX3_deep_14 : decode cX3_deep 14 = .ok (.if_icmp .eq 19, 3) := by decide +kernel
theorem dX3_deep_17 : decode cX3_deep 17 = .ok (.iinc 2 1, 3) := by decide +kernel
theorem dX3_deep_20 : decode cX3_deep 20 = .ok (.aload_n 0, 1) := by decide +kernel
theorem dX3_deep_21 : decode cX3_deep 21 = .ok (.getfield 9, 3) := by decide +kernel
theorem dX3_deep_24 : decode cX3_deep 24 = .ok (.bipush 120, 2) := by decide +kernel
theorem dX3_deep_26 : decode cX3_deep 26 = .ok (.iload_n 3, 1) := by decide +kernel
theorem dX3_deep_27 : decode cX3_deep 27 = .ok (.iadd, 1) := by decide +kernel
theorem dX3_deep_28 : decode cX3_deep 28 = .ok (.iaload, 1) := by decide +kernel
theorem dX3_deep_29 : decode cX3_deep 29 = .ok (.istore_n 3, 1) := by decide +kernel
theorem dX3_deep_30 : decode cX3_deep 30 = .ok (.goto (-18), 3) := by decide +kernel
theorem dX3_deep_33 : decode cX3_deep 33 = .ok (.iload_n 2, 1) := by decide +kernel
theorem dX3_deep_34 : decode cX3_deep 34 = .ok (.ireturn, 1) := by decide +kernel
theorem dX3_free_0 : decode cX3_free 0 = .ok (.iconst 0, 1) := by decide +kernel
theorem dX3_free_1 : decode cX3_free 1 = .ok (.istore_n 1, 1) := by decide +kernel
theorem dX3_free_2 : decode cX3_free 2 = .ok (.aload_n 0, 1) := by decide +kernel
theorem dX3_free_3 : decode cX3_free 3 = .ok (.getfield 9, 3) := by decide +kernel
theorem dX3_free_6 : decode cX3_free 6 = .ok (.iconst 0, 1) := by decide +kernel
theorem dX3_free_7 : decode cX3_free 7 = .ok (.iload_n 1, 1) := by decide +kernel
theorem dX3_free_8 : decode cX3_free 8 = .ok (.iadd, 1) := by decide +kernel
theorem dX3_free_9 : decode cX3_free 9 = .ok (.iaload, 1) := by decide +kernel
theorem dX3_free_10 : decode cX3_free 10 = .ok (.iconst (-1), 1) := by decide +kernel
theorem dX3_free_11 : decode cX3_free 11 = .ok (.if_icmp .eq 9, 3) := by decide +kernel
theorem dX3_free_14 : decode cX3_free 14 = .ok (.iinc 1 1, 3) := by decide +kernel
theorem dX3_free_17 : decode cX3_free 17 = .ok (.goto (-15), 3) := by decide +kernel
theorem dX3_free_20 : decode cX3_free 20 = .ok (.iload_n 1, 1) := by decide +kernel
theorem dX3_free_21 : decode cX3_free 21 = .ok (.ireturn, 1) := by decide +kernel
theorem dX3_end_0 : decode cX3_end 0 = .ok (.iload_n 1, 1) := by decide +kernel
theorem dX3_end_1 : decode cX3_end 1 = .ok (.istore_n 3, 1) := by decide +kernel
theorem dX3_end_2 : decode cX3_end 2 = .ok (.iload_n 3, 1) := by decide +kernel
theorem dX3_end_3 : decode cX3_end 3 = .ok (.iconst (-1), 1) := by decide +kernel
theorem dX3_end_4 : decode cX3_end 4 = .ok (.if_icmp .eq 27, 3) := by decide +kernel
theorem dX3_end_7 : decode cX3_end 7 = .ok (.aload_n 0, 1) := by decide +kernel
theorem dX3_end_8 : decode cX3_end 8 = .ok (.getfield 9, 3) := by decide +kernel
theorem dX3_end_11 : decode cX3_end 11 = .ok (.iload_n 2, 1) := by decide +kernel
theorem dX3_end_12 : decode cX3_end 12 = .ok (.iload_n 3, 1) := by decide +kernel
theorem dX3_end_13 : decode cX3_end 13 = .ok (.iadd, 1) := by decide +kernel
theorem dX3_end_14 : decode cX3_end 14 = .ok (.iaload, 1) := by decide +kernel
theorem dX3_end_15 : decode cX3_end 15 = .ok (.iconst (-1), 1) := by decide +kernel
theorem dX3_end_16 : decode cX3_end 16 = .ok (.if_icmp .eq 15, 3) := by decide +kernel
theorem dX3_end_19 : decode cX3_end 19 = .ok (.aload_n 0, 1) := by decide +kernel
theorem dX3_end_20 : decode cX3_end 20 = .ok (.getfield 9, 3) := by decide +kernel
theorem dX3_end_23 : decode cX3_end 23 = .ok (.iload_n 2, 1) := by decide +kernel
theorem dX3_end_24 : decode cX3_end 24 = .ok (.iload_n 3, 1) := by decide +kernel
theorem dX3_end_25 : decode cX3_end 25 = .ok (.iadd, 1) := by decide +kernel
theorem dX3_end_26 : decode cX3_end 26 = .ok (.iaload, 1) := by decide +kernel
theorem dX3_end_27 : decode cX3_end 27 = .ok (.istore_n 3, 1) := by decide +kernel
theorem dX3_end_28 : decode cX3_end 28 = .ok (.goto (-26), 3) := by decide +kernel
theorem dX3_end_31 : decode cX3_end 31 = .ok (.iload_n 3, 1) := by decide +kernel
theorem dX3_end_32 : decode cX3_end 32 = .ok (.ireturn, 1) := by decide +kernel
theorem dX3_hang_0 : decode cX3_hang 0 = .ok (.iload_n 2, 1) := by decide +kernel
theorem dX3_hang_1 : decode cX3_hang 1 = .ok (.iconst (-1), 1) := by decide +kernel
theorem dX3_hang_2 : decode cX3_hang 2 = .ok (.if_icmp .eq 12, 3) := by decide +kernel
theorem dX3_hang_5 : decode cX3_hang 5 = .ok (.aload_n 0, 1) := by decide +kernel
theorem dX3_hang_6 : decode cX3_hang 6 = .ok (.getfield 9, 3) := by decide +kernel
theorem dX3_hang_9 : decode cX3_hang 9 = .ok (.iload_n 3, 1) := by decide +kernel
theorem dX3_hang_10 : decode cX3_hang 10 = .ok (.iload_n 2, 1) := by decide +kernel
theorem dX3_hang_11 : decode cX3_hang 11 = .ok (.iadd, 1) := by decide +kernel
theorem dX3_hang_12 : decode cX3_hang 12 = .ok (.iload_n 1, 1) := by decide +kernel
theorem dX3_hang_13 : decode cX3_hang 13 = .ok (.iastore, 1) := by decide +kernel
theorem dX3_hang_14 : decode cX3_hang 14 = .ok (.iload_n 1, 1) := by decide +kernel
theorem dX3_hang_15 : decode cX3_hang 15 = .ok (.iconst (-1), 1) := by decide +kernel
theorem dX3_hang_16 : decode cX3_hang 16 = .ok (.if_icmp .eq 13, 3) := by decide +kernel
theorem dX3_hang_19 : decode cX3_hang 19 = .ok (.aload_n 0, 1) := by decide +kernel
theorem dX3_hang_20 : decode cX3_hang 20 = .ok (.getfield 9, 3) := by decide +kernel
theorem dX3_hang_23 : decode cX3_hang 23 = .ok (.bipush 120, 2) := by decide +kernel
theorem dX3_hang_25 : decode cX3_hang 25 = .ok (.iload_n 1, 1) := by decide +kernel
theorem dX3_hang_26 : decode cX3_hang 26 = .ok (.iadd, 1) := by decide +kernel
theorem dX3_hang_27 : decode cX3_hang 27 = .ok (.iload_n 2, 1) := by decide +kernel
theorem dX3_hang_28 : decode cX3_hang 28 = .ok (.iastore, 1) := by decide +kernel
theorem dX3_hang_29 : decode cX3_hang 29 = .ok (.return_, 1) := by decide +kernel
theorem dX3_sideOf_0 : decode cX3_sideOf 0 = .ok (.aload_n 0, 1) := by decide +kernel
theorem dX3_sideOf_1 : decode cX3_sideOf 1 = .ok (.getfield 9, 3) := by decide +kernel
theorem dX3_sideOf_4 : decode cX3_sideOf 4 = .ok (.bipush 40, 2) := by decide +kernel
theorem dX3_sideOf_6 : decode cX3_sideOf 6 = .ok (.aload_n 0, 1) := by decide +kernel
theorem dX3_sideOf_7 : decode cX3_sideOf 7 = .ok (.getfield 9, 3) := by decide +kernel
theorem dX3_sideOf_10 : decode cX3_sideOf 10 = .ok (.bipush 120, 2) := by decide +kernel
theorem dX3_sideOf_12 : decode cX3_sideOf 12 = .ok (.iload_n 1, 1) := by decide +kernel
theorem dX3_sideOf_13 : decode cX3_sideOf 13 = .ok (.iadd, 1) := by decide +kernel
theorem dX3_sideOf_14 : decode cX3_sideOf 14 = .ok (.iaload, 1) := by decide +kernel
theorem dX3_sideOf_15 : decode cX3_sideOf 15 = .ok (.iadd, 1) := by decide +kernel
theorem dX3_sideOf_16 : decode cX3_sideOf 16 = .ok (.iaload, 1) := by decide +kernel
theorem dX3_sideOf_17 : decode cX3_sideOf 17 = .ok (.iload_n 1, 1) := by decide +kernel
theorem dX3_sideOf_18 : decode cX3_sideOf 18 = .ok (.if_icmp .ne 8, 3) := by decide +kernel
theorem dX3_sideOf_21 : decode cX3_sideOf 21 = .ok (.bipush 40, 2) := by decide +kernel
theorem dX3_sideOf_23 : decode cX3_sideOf 23 = .ok (.goto 5, 3) := by decide +kernel
theorem dX3_sideOf_26 : decode cX3_sideOf 26 = .ok (.bipush 80, 2) := by decide +kernel
theorem dX3_sideOf_28 : decode cX3_sideOf 28 = .ok (.ireturn, 1) := by decide +kernel
theorem dX3_across_0 : decode cX3_across 0 = .ok (.iload_n 0, 1) := by decide +kernel
theorem dX3_across_1 : decode cX3_across 1 = .ok (.bipush 40, 2) := by decide +kernel
theorem dX3_across_3 : decode cX3_across 3 = .ok (.if_icmp .ne 8, 3) := by decide +kernel
theorem dX3_across_6 : decode cX3_across 6 = .ok (.bipush 80, 2) := by decide +kernel
theorem dX3_across_8 : decode cX3_across 8 = .ok (.goto 5, 3) := by decide +kernel
theorem dX3_across_11 : decode cX3_across 11 = .ok (.bipush 40, 2) := by decide +kernel
theorem dX3_across_13 : decode cX3_across 13 = .ok (.ireturn, 1) := by decide +kernel
set_option maxRecDepth 20000 in
theorem ggX3_turn_X3_sideOf : GoodIn wsX3_turn wsX3_sideOf := goodIn_r _ [7, 1, 15, 16, 17, 18, 19, 20] (by decide +kernel) (by decide +kernel)
set_option maxRecDepth 20000 in
theorem gX3_turn_X3_sideOf : GoodIn wsX3_turn (wsV RX3 32 RX3 yX3_sideOf wsX3_sideOf) := goodIn_app (goodIn_of _ (by decide +kernel)) ggX3_turn_X3_sideOf
set_option maxRecDepth 20000 in
theorem ggX3_turn_X3_across : GoodIn wsX3_turn wsX3_across := goodIn_r _ [10] (by decide +kernel) (by decide +kernel)
set_option maxRecDepth 20000 in
theorem gX3_turn_X3_across : GoodIn wsX3_turn (va_wsS RX3 36 yX3_across wsX3_across) := goodIn_app (goodIn_of _ (by decide +kernel)) ggX3_turn_X3_across
set_option maxRecDepth 20000 in
theorem ggX3_turn_X3_hang : GoodIn wsX3_turn wsX3_hang := goodIn_r _ [14, 1, 15, 16, 17, 18, 19, 20] (by decide +kernel) (by decide +kernel)
set_option maxRecDepth 20000 in
theorem gX3_turn_X3_hang : GoodIn wsX3_turn (wsV RX3 39 RX3 yX3_hang wsX3_hang) := goodIn_app (goodIn_of _ (by decide +kernel)) ggX3_turn_X3_hang
theorem dX3_turn_0 : decode cX3_turn 0 = .ok (.aload_n 0, 1) := by decide +kernel
theorem dX3_turn_1 : decode cX3_turn 1 = .ok (.getfield 9, 3) := by decide +kernel
theorem dX3_turn_4 : decode cX3_turn 4 = .ok (.bipush 120, 2) := by decide +kernel
theorem dX3_turn_6 : decode cX3_turn 6 = .ok (.iload_n 1, 1) := by decide +kernel
theorem dX3_turn_7 : decode cX3_turn 7 = .ok (.iadd, 1) := by decide +kernel
theorem dX3_turn_8 : decode cX3_turn 8 = .ok (.iaload, 1) := by decide +kernel
theorem dX3_turn_9 : decode cX3_turn 9 = .ok (.istore_n 2, 1) := by decide +kernel
theorem dX3_turn_10 : decode cX3_turn 10 = .ok (.aload_n 0, 1) := by decide +kernel
theorem dX3_turn_11 : decode cX3_turn 11 = .ok (.getfield 9, 3) := by decide +kernel
theorem dX3_turn_14 : decode cX3_turn 14 = .ok (.bipush 120, 2) := by decide +kernel
theorem dX3_turn_16 : decode cX3_turn 16 = .ok (.iload_n 2, 1) := by decide +kernel
theorem dX3_turn_17 : decode cX3_turn 17 = .ok (.iadd, 1) := by decide +kernel
theorem dX3_turn_18 : decode cX3_turn 18 = .ok (.iaload, 1) := by decide +kernel
theorem dX3_turn_19 : decode cX3_turn 19 = .ok (.istore_n 3, 1) := by decide +kernel
theorem dX3_turn_20 : decode cX3_turn 20 = .ok (.aload_n 0, 1) := by decide +kernel
theorem dX3_turn_21 : decode cX3_turn 21 = .ok (.iload_n 1, 1) := by decide +kernel
theorem dX3_turn_22 : decode cX3_turn 22 = .ok (.invokevirtual 32, 3) := by decide +kernel
theorem dX3_turn_25 : decode cX3_turn 25 = .ok (.istore 4, 2) := by decide +kernel
theorem dX3_turn_27 : decode cX3_turn 27 = .ok (.iload_n 3, 1) := by decide +kernel
theorem dX3_turn_28 : decode cX3_turn 28 = .ok (.iconst (-1), 1) := by decide +kernel
theorem dX3_turn_29 : decode cX3_turn 29 = .ok (.if_icmp .ne 7, 3) := by decide +kernel
theorem dX3_turn_32 : decode cX3_turn 32 = .ok (.iconst (-1), 1) := by decide +kernel
theorem dX3_turn_33 : decode cX3_turn 33 = .ok (.goto 8, 3) := by decide +kernel
theorem dX3_turn_36 : decode cX3_turn 36 = .ok (.aload_n 0, 1) := by decide +kernel
theorem dX3_turn_37 : decode cX3_turn 37 = .ok (.iload_n 2, 1) := by decide +kernel
theorem dX3_turn_38 : decode cX3_turn 38 = .ok (.invokevirtual 32, 3) := by decide +kernel
theorem dX3_turn_41 : decode cX3_turn 41 = .ok (.istore 5, 2) := by decide +kernel
theorem dX3_turn_43 : decode cX3_turn 43 = .ok (.aload_n 0, 1) := by decide +kernel
theorem dX3_turn_44 : decode cX3_turn 44 = .ok (.aload_n 0, 1) := by decide +kernel
theorem dX3_turn_45 : decode cX3_turn 45 = .ok (.getfield 9, 3) := by decide +kernel
theorem dX3_turn_48 : decode cX3_turn 48 = .ok (.iload 4, 2) := by decide +kernel
theorem dX3_turn_50 : decode cX3_turn 50 = .ok (.invokestatic 36, 3) := by decide +kernel
theorem dX3_turn_53 : decode cX3_turn 53 = .ok (.iload_n 1, 1) := by decide +kernel
theorem dX3_turn_54 : decode cX3_turn 54 = .ok (.iadd, 1) := by decide +kernel
theorem dX3_turn_55 : decode cX3_turn 55 = .ok (.iaload, 1) := by decide +kernel
theorem dX3_turn_56 : decode cX3_turn 56 = .ok (.iload_n 2, 1) := by decide +kernel
theorem dX3_turn_57 : decode cX3_turn 57 = .ok (.iload 4, 2) := by decide +kernel
theorem dX3_turn_59 : decode cX3_turn 59 = .ok (.invokevirtual 39, 3) := by decide +kernel
theorem dX3_turn_62 : decode cX3_turn 62 = .ok (.aload_n 0, 1) := by decide +kernel
theorem dX3_turn_63 : decode cX3_turn 63 = .ok (.iload_n 2, 1) := by decide +kernel
theorem dX3_turn_64 : decode cX3_turn 64 = .ok (.iload_n 1, 1) := by decide +kernel
theorem dX3_turn_65 : decode cX3_turn 65 = .ok (.iload 4, 2) := by decide +kernel
theorem dX3_turn_67 : decode cX3_turn 67 = .ok (.invokestatic 36, 3) := by decide +kernel
theorem dX3_turn_70 : decode cX3_turn 70 = .ok (.invokevirtual 39, 3) := by decide +kernel
theorem dX3_turn_73 : decode cX3_turn 73 = .ok (.aload_n 0, 1) := by decide +kernel
theorem dX3_turn_74 : decode cX3_turn 74 = .ok (.getfield 9, 3) := by decide +kernel
theorem dX3_turn_77 : decode cX3_turn 77 = .ok (.bipush 120, 2) := by decide +kernel
theorem dX3_turn_79 : decode cX3_turn 79 = .ok (.iload_n 1, 1) := by decide +kernel
theorem dX3_turn_80 : decode cX3_turn 80 = .ok (.iadd, 1) := by decide +kernel
theorem dX3_turn_81 : decode cX3_turn 81 = .ok (.iload_n 3, 1) := by decide +kernel
theorem dX3_turn_82 : decode cX3_turn 82 = .ok (.iastore, 1) := by decide +kernel
theorem dX3_turn_83 : decode cX3_turn 83 = .ok (.iload_n 3, 1) := by decide +kernel
theorem dX3_turn_84 : decode cX3_turn 84 = .ok (.iconst (-1), 1) := by decide +kernel
theorem dX3_turn_85 : decode cX3_turn 85 = .ok (.if_icmp .eq 13, 3) := by decide +kernel
theorem dX3_turn_88 : decode cX3_turn 88 = .ok (.aload_n 0, 1) := by decide +kernel
theorem dX3_turn_89 : decode cX3_turn 89 = .ok (.getfield 9, 3) := by decide +kernel
theorem dX3_turn_92 : decode cX3_turn 92 = .ok (.iload 5, 2) := by decide +kernel
theorem dX3_turn_94 : decode cX3_turn 94 = .ok (.iload_n 3, 1) := by decide +kernel
theorem dX3_turn_95 : decode cX3_turn 95 = .ok (.iadd, 1) := by decide +kernel
theorem dX3_turn_96 : decode cX3_turn 96 = .ok (.iload_n 1, 1) := by decide +kernel
theorem dX3_turn_97 : decode cX3_turn 97 = .ok (.iastore, 1) := by decide +kernel
theorem dX3_turn_98 : decode cX3_turn 98 = .ok (.aload_n 0, 1) := by decide +kernel
theorem dX3_turn_99 : decode cX3_turn 99 = .ok (.dup, 1) := by decide +kernel
theorem dX3_turn_100 : decode cX3_turn 100 = .ok (.getfield 26, 3) := by decide +kernel
theorem dX3_turn_103 : decode cX3_turn 103 = .ok (.iconst 1, 1) := by decide +kernel
theorem dX3_turn_104 : decode cX3_turn 104 = .ok (.iadd, 1) := by decide +kernel
theorem dX3_turn_105 : decode cX3_turn 105 = .ok (.putfield 26, 3) := by decide +kernel
theorem dX3_turn_108 : decode cX3_turn 108 = .ok (.return_, 1) := by decide +kernel
set_option maxRecDepth 20000 in
theorem ggX3_raise_X3_sideOf : GoodIn wsX3_raise wsX3_sideOf := goodIn_r _ [6, 1, 19, 20, 21, 22, 23, 24] (by decide +kernel) (by decide +kernel)
set_option maxRecDepth 20000 in
theorem gX3_raise_X3_sideOf : GoodIn wsX3_raise (wsV RX3 32 RX3 yX3_sideOf wsX3_sideOf) := goodIn_app (goodIn_of _ (by decide +kernel)) ggX3_raise_X3_sideOf
set_option maxRecDepth 20000 in
theorem ggX3_raise_X3_turn : GoodIn wsX3_raise wsX3_turn := goodIn_r _ [10, 1, 11, 2, 3, 4, 5, 6, 12, 13, 14, 15, 16, 17, 18, 19, 20, 21, 22, 23, 24] (by decide +kernel) (by decide +kernel)
set_option maxRecDepth 20000 in
theorem gX3_raise_X3_turn : GoodIn wsX3_raise (wsV RX3 43 RX3 yX3_turn wsX3_turn) := goodIn_app (goodIn_of _ (by decide +kernel)) ggX3_raise_X3_turn
theorem dX3_raise_0 : decode cX3_raise 0 = .ok (.aload_n 0, 1) := by decide +kernel
theorem dX3_raise_1 : decode cX3_raise 1 = .ok (.getfield 9, 3) := by decide +kernel
theorem dX3_raise_4 : decode cX3_raise 4 = .ok (.bipush 120, 2) := by decide +kernel
theorem dX3_raise_6 : decode cX3_raise 6 = .ok (.iload_n 1, 1) := by decide +kernel
theorem dX3_raise_7 : decode cX3_raise 7 = .ok (.iadd, 1) := by decide +kernel
theorem dX3_raise_8 : decode cX3_raise 8 = .ok (.iaload, 1) := by decide +kernel
theorem dX3_raise_9 : decode cX3_raise 9 = .ok (.iconst (-1), 1) := by decide +kernel
theorem dX3_raise_10 : decode cX3_raise 10 = .ok (.if_icmp .eq 56, 3) := by decide +kernel
theorem dX3_raise_13 : decode cX3_raise 13 = .ok (.aload_n 0, 1) := by decide +kernel
theorem dX3_raise_14 : decode cX3_raise 14 = .ok (.getfield 9, 3) := by decide +kernel
theorem dX3_raise_17 : decode cX3_raise 17 = .ok (.bipush 120, 2) := by decide +kernel
theorem dX3_raise_19 : decode cX3_raise 19 = .ok (.iload_n 1, 1) := by decide +kernel
theorem dX3_raise_20 : decode cX3_raise 20 = .ok (.iadd, 1) := by decide +kernel
theorem dX3_raise_21 : decode cX3_raise 21 = .ok (.iaload, 1) := by decide +kernel
theorem dX3_raise_22 : decode cX3_raise 22 = .ok (.istore_n 2, 1) := by decide +kernel
theorem dX3_raise_23 : decode cX3_raise 23 = .ok (.aload_n 0, 1) := by decide +kernel
theorem dX3_raise_24 : decode cX3_raise 24 = .ok (.getfield 9, 3) := by decide +kernel
theorem dX3_raise_27 : decode cX3_raise 27 = .ok (.bipush 120, 2) := by decide +kernel
theorem dX3_raise_29 : decode cX3_raise 29 = .ok (.iload_n 2, 1) := by decide +kernel
theorem dX3_raise_30 : decode cX3_raise 30 = .ok (.iadd, 1) := by decide +kernel
theorem dX3_raise_31 : decode cX3_raise 31 = .ok (.iaload, 1) := by decide +kernel
theorem dX3_raise_32 : decode cX3_raise 32 = .ok (.iconst (-1), 1) := by decide +kernel
theorem dX3_raise_33 : decode cX3_raise 33 = .ok (.if_icmp .eq 25, 3) := by decide +kernel
theorem dX3_raise_36 : decode cX3_raise 36 = .ok (.aload_n 0, 1) := by decide +kernel
theorem dX3_raise_37 : decode cX3_raise 37 = .ok (.aload_n 0, 1) := by decide +kernel
theorem dX3_raise_38 : decode cX3_raise 38 = .ok (.iload_n 1, 1) := by decide +kernel
theorem dX3_raise_39 : decode cX3_raise 39 = .ok (.invokevirtual 32, 3) := by decide +kernel
theorem dX3_raise_42 : decode cX3_raise 42 = .ok (.aload_n 0, 1) := by decide +kernel
theorem dX3_raise_43 : decode cX3_raise 43 = .ok (.iload_n 2, 1) := by decide +kernel
theorem dX3_raise_44 : decode cX3_raise 44 = .ok (.invokevirtual 32, 3) := by decide +kernel
theorem dX3_raise_47 : decode cX3_raise 47 = .ok (.if_icmp .ne 7, 3) := by decide +kernel
theorem dX3_raise_50 : decode cX3_raise 50 = .ok (.iload_n 2, 1) := by decide +kernel
theorem dX3_raise_51 : decode cX3_raise 51 = .ok (.goto 4, 3) := by decide +kernel
theorem dX3_raise_54 : decode cX3_raise 54 = .ok (.iload_n 1, 1) := by decide +kernel
theorem dX3_raise_55 : decode cX3_raise 55 = .ok (.invokevirtual 43, 3) := by decide +kernel
theorem dX3_raise_58 : decode cX3_raise 58 = .ok (.aload_n 0, 1) := by decide +kernel
theorem dX3_raise_59 : decode cX3_raise 59 = .ok (.iload_n 1, 1) := by decide +kernel
theorem dX3_raise_60 : decode cX3_raise 60 = .ok (.invokevirtual 43, 3) := by decide +kernel
theorem dX3_raise_63 : decode cX3_raise 63 = .ok (.goto (-63), 3) := by decide +kernel
theorem dX3_raise_66 : decode cX3_raise 66 = .ok (.return_, 1) := by decide +kernel
set_option maxRecDepth 20000 in
theorem ggX3_raiseIn_X3_raise : GoodIn wsX3_raiseIn wsX3_raise := goodIn_r _ [6, 1, 7, 8, 9, 5, 10, 11, 12, 13, 14, 15, 16, 17, 18, 19, 20, 21, 22, 23, 24, 25, 26, 27, 28] (by decide +kernel) (by decide +kernel)
set_option maxRecDepth 20000 in
theorem gX3_raiseIn_X3_raise : GoodIn wsX3_raiseIn (wsV RX3 47 RX3 yX3_raise wsX3_raise) := goodIn_app (goodIn_of _ (by decide +kernel)) ggX3_raiseIn_X3_raise
theorem dX3_raiseIn_0 : decode cX3_raiseIn 0 = .ok (.aload_n 0, 1) := by decide +kernel
theorem dX3_raiseIn_1 : decode cX3_raiseIn 1 = .ok (.iload_n 2, 1) := by decide +kernel
theorem dX3_raiseIn_2 : decode cX3_raiseIn 2 = .ok (.invokevirtual 47, 3) := by decide +kernel
theorem dX3_raiseIn_5 : decode cX3_raiseIn 5 = .ok (.aload_n 0, 1) := by decide +kernel
theorem dX3_raiseIn_6 : decode cX3_raiseIn 6 = .ok (.getfield 9, 3) := by decide +kernel
theorem dX3_raiseIn_9 : decode cX3_raiseIn 9 = .ok (.sipush 200, 3) := by decide +kernel
theorem dX3_raiseIn_12 : decode cX3_raiseIn 12 = .ok (.iload_n 1, 1) := by decide +kernel
theorem dX3_raiseIn_13 : decode cX3_raiseIn 13 = .ok (.iadd, 1) := by decide +kernel
theorem dX3_raiseIn_14 : decode cX3_raiseIn 14 = .ok (.iload_n 2, 1) := by decide +kernel
theorem dX3_raiseIn_15 : decode cX3_raiseIn 15 = .ok (.iastore, 1) := by decide +kernel
theorem dX3_raiseIn_16 : decode cX3_raiseIn 16 = .ok (.return_, 1) := by decide +kernel
set_option maxRecDepth 20000 in
theorem ggX3_count_X3_count : GoodIn wsX3_count wsX3_count := goodIn_r _ [0, 1, 2, 3, 4, 5, 6, 7, 8, 9, 10, 11] (by decide +kernel) (by decide +kernel)
set_option maxRecDepth 20000 in
theorem gX3_count_X3_count : GoodIn wsX3_count (wsV RX3 50 RX3 yX3_count wsX3_count) := goodIn_app (goodIn_of _ (by decide +kernel)) ggX3_count_X3_count
theorem dX3_count_0 : decode cX3_count 0 = .ok (.iload_n 1, 1) := by decide +kernel
theorem dX3_count_1 : decode cX3_count 1 = .ok (.iconst (-1), 1) := by decide +kernel
theorem dX3_count_2 : decode cX3_count 2 = .ok (.if_icmp .ne 7, 3) := by decide +kernel
theorem dX3_count_5 : decode cX3_count 5 = .ok (.iconst 0, 1) := by decide +kernel
theorem dX3_count_6 : decode cX3_count 6 = .ok (.goto 32, 3) := by decide +kernel
theorem dX3_count_9 : decode cX3_count 9 = .ok (.iconst 1, 1) := by decide +kernel
theorem dX3_count_10 : decode cX3_count 10 = .ok (.aload_n 0, 1) := by decide +kernel
theorem dX3_count_11 : decode cX3_count 11 = .ok (.aload_n 0, 1) := by decide +kernel
theorem dX3_count_12 : decode cX3_count 12 = .ok (.getfield 9, 3) := by decide +kernel
theorem dX3_count_15 : decode cX3_count 15 = .ok (.bipush 40, 2) := by decide +kernel
theorem dX3_count_17 : decode cX3_count 17 = .ok (.iload_n 1, 1) := by decide +kernel
theorem dX3_count_18 : decode cX3_count 18 = .ok (.iadd, 1) := by decide +kernel
theorem dX3_count_19 : decode cX3_count 19 = .ok (.iaload, 1) := by decide +kernel
theorem dX3_count_20 : decode cX3_count 20 = .ok (.invokevirtual 50, 3) := by decide +kernel
theorem dX3_count_23 : decode cX3_count 23 = .ok (.iadd, 1) := by decide +kernel
theorem dX3_count_24 : decode cX3_count 24 = .ok (.aload_n 0, 1) := by decide +kernel
theorem dX3_count_25 : decode cX3_count 25 = .ok (.aload_n 0, 1) := by decide +kernel
theorem dX3_count_26 : decode cX3_count 26 = .ok (.getfield 9, 3) := by decide +kernel
theorem dX3_count_29 : decode cX3_count 29 = .ok (.bipush 80, 2) := by decide +kernel
theorem dX3_count_31 : decode cX3_count 31 = .ok (.iload_n 1, 1) := by decide +kernel
theorem dX3_count_32 : decode cX3_count 32 = .ok (.iadd, 1) := by decide +kernel
theorem dX3_count_33 : decode cX3_count 33 = .ok (.iaload, 1) := by decide +kernel
theorem dX3_count_34 : decode cX3_count 34 = .ok (.invokevirtual 50, 3) := by decide +kernel
theorem dX3_count_37 : decode cX3_count 37 = .ok (.iadd, 1) := by decide +kernel
theorem dX3_count_38 : decode cX3_count 38 = .ok (.ireturn, 1) := by decide +kernel
set_option maxRecDepth 20000 in
theorem ggX3_high_X3_high : GoodIn wsX3_high wsX3_high := goodIn_r _ [0, 1, 2, 3, 4, 5, 6, 7, 8, 9, 10, 11, 12, 13, 14, 15] (by decide +kernel) (by decide +kernel)
set_option maxRecDepth 20000 in
theorem gX3_high_X3_high : GoodIn wsX3_high (wsV RX3 53 RX3 yX3_high wsX3_high) := goodIn_app (goodIn_of _ (by decide +kernel)) ggX3_high_X3_high
theorem dX3_high_0 : decode cX3_high 0 = .ok (.iload_n 1, 1) := by decide +kernel
theorem dX3_high_1 : decode cX3_high 1 = .ok (.iconst (-1), 1) := by decide +kernel
theorem dX3_high_2 : decode cX3_high 2 = .ok (.if_icmp .ne 7, 3) := by decide +kernel
theorem dX3_high_5 : decode cX3_high 5 = .ok (.iconst 0, 1) := by decide +kernel
theorem dX3_high_6 : decode cX3_high 6 = .ok (.goto 34, 3) := by decide +kernel
theorem dX3_high_9 : decode cX3_high 9 = .ok (.iconst 1, 1) := by decide +kernel
theorem dX3_high_10 : decode cX3_high 10 = .ok (.aload_n 0, 1) := by decide +kernel
theorem dX3_high_11 : decode cX3_high 11 = .ok (.aload_n 0, 1) := by decide +kernel
theorem dX3_high_12 : decode cX3_high 12 = .ok (.getfield 9, 3) := by decide +kernel
theorem dX3_high_15 : decode cX3_high 15 = .ok (.bipush 40, 2) := by decide +kernel
theorem dX3_high_17 : decode cX3_high 17 = .ok (.iload_n 1, 1) := by decide +kernel
theorem dX3_high_18 : decode cX3_high 18 = .ok (.iadd, 1) := by decide +kernel
theorem dX3_high_19 : decode cX3_high 19 = .ok (.iaload, 1) := by decide +kernel
theorem dX3_high_20 : decode cX3_high 20 = .ok (.invokevirtual 53, 3) := by decide +kernel
theorem dX3_high_23 : decode cX3_high 23 = .ok (.aload_n 0, 1) := by decide +kernel
theorem dX3_high_24 : decode cX3_high 24 = .ok (.aload_n 0, 1) := by decide +kernel
theorem dX3_high_25 : decode cX3_high 25 = .ok (.getfield 9, 3) := by decide +kernel
theorem dX3_high_28 : decode cX3_high 28 = .ok (.bipush 80, 2) := by decide +kernel
theorem dX3_high_30 : decode cX3_high 30 = .ok (.iload_n 1, 1) := by decide +kernel
theorem dX3_high_31 : decode cX3_high 31 = .ok (.iadd, 1) := by decide +kernel
theorem dX3_high_32 : decode cX3_high 32 = .ok (.iaload, 1) := by decide +kernel
theorem dX3_high_33 : decode cX3_high 33 = .ok (.invokevirtual 53, 3) := by decide +kernel
theorem dX3_high_36 : decode cX3_high 36 = .ok (.invokestatic 56, 3) := by decide +kernel
theorem dX3_high_39 : decode cX3_high 39 = .ok (.iadd, 1) := by decide +kernel
theorem dX3_high_40 : decode cX3_high 40 = .ok (.ireturn, 1) := by decide +kernel
set_option maxRecDepth 20000 in
theorem ggX3_depthsOf_X3_depthsOf : GoodIn wsX3_depthsOf wsX3_depthsOf := goodIn_r _ [0, 1, 2, 3, 4, 5, 6, 7, 8, 9, 10, 11] (by decide +kernel) (by decide +kernel)
set_option maxRecDepth 20000 in
theorem gX3_depthsOf_X3_depthsOf : GoodIn wsX3_depthsOf (wsV RX3 62 RX3 yX3_depthsOf wsX3_depthsOf) := goodIn_app (goodIn_of _ (by decide +kernel)) ggX3_depthsOf_X3_depthsOf
theorem dX3_depthsOf_0 : decode cX3_depthsOf 0 = .ok (.iload_n 1, 1) := by decide +kernel
theorem dX3_depthsOf_1 : decode cX3_depthsOf 1 = .ok (.iconst (-1), 1) := by decide +kernel
theorem dX3_depthsOf_2 : decode cX3_depthsOf 2 = .ok (.if_icmp .ne 7, 3) := by decide +kernel
theorem dX3_depthsOf_5 : decode cX3_depthsOf 5 = .ok (.iconst 0, 1) := by decide +kernel
theorem dX3_depthsOf_6 : decode cX3_depthsOf 6 = .ok (.goto 38, 3) := by decide +kernel
theorem dX3_depthsOf_9 : decode cX3_depthsOf 9 = .ok (.iload_n 2, 1) := by decide +kernel
theorem dX3_depthsOf_10 : decode cX3_depthsOf 10 = .ok (.aload_n 0, 1) := by decide +kernel
theorem dX3_depthsOf_11 : decode cX3_depthsOf 11 = .ok (.aload_n 0, 1) := by decide +kernel
theorem dX3_depthsOf_12 : decode cX3_depthsOf 12 = .ok (.getfield 9, 3) := by decide +kernel
theorem dX3_depthsOf_15 : decode cX3_depthsOf 15 = .ok (.bipush 40, 2) := by decide +kernel
theorem dX3_depthsOf_17 : decode cX3_depthsOf 17 = .ok (.iload_n 1, 1) := by decide +kernel
theorem dX3_depthsOf_18 : decode cX3_depthsOf 18 = .ok (.iadd, 1) := by decide +kernel
theorem dX3_depthsOf_19 : decode cX3_depthsOf 19 = .ok (.iaload, 1) := by decide +kernel
theorem dX3_depthsOf_20 : decode cX3_depthsOf 20 = .ok (.iload_n 2, 1) := by decide +kernel
theorem dX3_depthsOf_21 : decode cX3_depthsOf 21 = .ok (.iconst 1, 1) := by decide +kernel
theorem dX3_depthsOf_22 : decode cX3_depthsOf 22 = .ok (.iadd, 1) := by decide +kernel
theorem dX3_depthsOf_23 : decode cX3_depthsOf 23 = .ok (.invokevirtual 62, 3) := by decide +kernel
theorem dX3_depthsOf_26 : decode cX3_depthsOf 26 = .ok (.iadd, 1) := by decide +kernel
theorem dX3_depthsOf_27 : decode cX3_depthsOf 27 = .ok (.aload_n 0, 1) := by decide +kernel
theorem dX3_depthsOf_28 : decode cX3_depthsOf 28 = .ok (.aload_n 0, 1) := by decide +kernel
theorem dX3_depthsOf_29 : decode cX3_depthsOf 29 = .ok (.getfield 9, 3) := by decide +kernel
theorem dX3_depthsOf_32 : decode cX3_depthsOf 32 = .ok (.bipush 80, 2) := by decide +kernel
theorem dX3_depthsOf_34 : decode cX3_depthsOf 34 = .ok (.iload_n 1, 1) := by decide +kernel
theorem dX3_depthsOf_35 : decode cX3_depthsOf 35 = .ok (.iadd, 1) := by decide +kernel
theorem dX3_depthsOf_36 : decode cX3_depthsOf 36 = .ok (.iaload, 1) := by decide +kernel
theorem dX3_depthsOf_37 : decode cX3_depthsOf 37 = .ok (.iload_n 2, 1) := by decide +kernel
theorem dX3_depthsOf_38 : decode cX3_depthsOf 38 = .ok (.iconst 1, 1) := by decide +kernel
theorem dX3_depthsOf_39 : decode cX3_depthsOf 39 = .ok (.iadd, 1) := by decide +kernel
theorem dX3_depthsOf_40 : decode cX3_depthsOf 40 = .ok (.invokevirtual 62, 3) := by decide +kernel
theorem dX3_depthsOf_43 : decode cX3_depthsOf 43 = .ok (.iadd, 1) := by decide +kernel
theorem dX3_depthsOf_44 : decode cX3_depthsOf 44 = .ok (.ireturn, 1) := by decide +kernel
set_option maxRecDepth 20000 in
theorem ggX3_ends_X3_ends : GoodIn wsX3_ends wsX3_ends := goodIn_r _ [0, 1, 2, 3, 4, 5, 6, 7, 8, 9, 10, 11] (by decide +kernel) (by decide +kernel)
set_option maxRecDepth 20000 in
theorem gX3_ends_X3_ends : GoodIn wsX3_ends (wsV RX3 65 RX3 yX3_ends wsX3_ends) := goodIn_app (goodIn_of _ (by decide +kernel)) ggX3_ends_X3_ends
theorem dX3_ends_0 : decode cX3_ends 0 = .ok (.iload_n 1, 1) := by decide +kernel
theorem dX3_ends_1 : decode cX3_ends 1 = .ok (.iconst (-1), 1) := by decide +kernel
theorem dX3_ends_2 : decode cX3_ends 2 = .ok (.if_icmp .ne 5, 3) := by decide +kernel
theorem dX3_ends_5 : decode cX3_ends 5 = .ok (.iconst 0, 1) := by decide +kernel
theorem dX3_ends_6 : decode cX3_ends 6 = .ok (.ireturn, 1) := by decide +kernel
theorem dX3_ends_7 : decode cX3_ends 7 = .ok (.aload_n 0, 1) := by decide +kernel
theorem dX3_ends_8 : decode cX3_ends 8 = .ok (.getfield 9, 3) := by decide +kernel
theorem dX3_ends_11 : decode cX3_ends 11 = .ok (.bipush 40, 2) := by decide +kernel
theorem dX3_ends_13 : decode cX3_ends 13 = .ok (.iload_n 1, 1) := by decide +kernel
theorem dX3_ends_14 : decode cX3_ends 14 = .ok (.iadd, 1) := by decide +kernel
theorem dX3_ends_15 : decode cX3_ends 15 = .ok (.iaload, 1) := by decide +kernel
theorem dX3_ends_16 : decode cX3_ends 16 = .ok (.iconst (-1), 1) := by decide +kernel
theorem dX3_ends_17 : decode cX3_ends 17 = .ok (.if_icmp .ne 20, 3) := by decide +kernel
theorem dX3_ends_20 : decode cX3_ends 20 = .ok (.aload_n 0, 1) := by decide +kernel
theorem dX3_ends_21 : decode cX3_ends 21 = .ok (.getfield 9, 3) := by decide +kernel
theorem dX3_ends_24 : decode cX3_ends 24 = .ok (.bipush 80, 2) := by decide +kernel
theorem dX3_ends_26 : decode cX3_ends 26 = .ok (.iload_n 1, 1) := by decide +kernel
theorem dX3_ends_27 : decode cX3_ends 27 = .ok (.iadd, 1) := by decide +kernel
theorem dX3_ends_28 : decode cX3_ends 28 = .ok (.iaload, 1) := by decide +kernel
theorem dX3_ends_29 : decode cX3_ends 29 = .ok (.iconst (-1), 1) := by decide +kernel
theorem dX3_ends_30 : decode cX3_ends 30 = .ok (.if_icmp .ne 7, 3) := by decide +kernel
theorem dX3_ends_33 : decode cX3_ends 33 = .ok (.iconst 1, 1) := by decide +kernel
theorem dX3_ends_34 : decode cX3_ends 34 = .ok (.goto 30, 3) := by decide +kernel
theorem dX3_ends_37 : decode cX3_ends 37 = .ok (.aload_n 0, 1) := by decide +kernel
theorem dX3_ends_38 : decode cX3_ends 38 = .ok (.aload_n 0, 1) := by decide +kernel
theorem dX3_ends_39 : decode cX3_ends 39 = .ok (.getfield 9, 3) := by decide +kernel
theorem dX3_ends_42 : decode cX3_ends 42 = .ok (.bipush 40, 2) := by decide +kernel
theorem dX3_ends_44 : decode cX3_ends 44 = .ok (.iload_n 1, 1) := by decide +kernel
theorem dX3_ends_45 : decode cX3_ends 45 = .ok (.iadd, 1) := by decide +kernel
theorem dX3_ends_46 : decode cX3_ends 46 = .ok (.iaload, 1) := by decide +kernel
theorem dX3_ends_47 : decode cX3_ends 47 = .ok (.invokevirtual 65, 3) := by decide +kernel
theorem dX3_ends_50 : decode cX3_ends 50 = .ok (.aload_n 0, 1) := by decide +kernel
theorem dX3_ends_51 : decode cX3_ends 51 = .ok (.aload_n 0, 1) := by decide +kernel
theorem dX3_ends_52 : decode cX3_ends 52 = .ok (.getfield 9, 3) := by decide +kernel
theorem dX3_ends_55 : decode cX3_ends 55 = .ok (.bipush 80, 2) := by decide +kernel
theorem dX3_ends_57 : decode cX3_ends 57 = .ok (.iload_n 1, 1) := by decide +kernel
theorem dX3_ends_58 : decode cX3_ends 58 = .ok (.iadd, 1) := by decide +kernel
theorem dX3_ends_59 : decode cX3_ends 59 = .ok (.iaload, 1) := by decide +kernel
theorem dX3_ends_60 : decode cX3_ends 60 = .ok (.invokevirtual 65, 3) := by decide +kernel
theorem dX3_ends_63 : decode cX3_ends 63 = .ok (.iadd, 1) := by decide +kernel
theorem dX3_ends_64 : decode cX3_ends 64 = .ok (.ireturn, 1) := by decide +kernel
set_option maxRecDepth 20000 in
theorem ggX3_under_X3_count : GoodIn wsX3_under wsX3_count := goodIn_r _ [6, 1, 2, 3, 4, 5, 10, 11, 12, 13, 14, 15] (by decide +kernel) (by decide +kernel)
set_option maxRecDepth 20000 in
theorem gX3_under_X3_count : GoodIn wsX3_under (wsV RX3 50 RX3 yX3_count wsX3_count) := goodIn_app (goodIn_of _ (by decide +kernel)) ggX3_under_X3_count
set_option maxRecDepth 20000 in
theorem ggX3_under_X3_under : GoodIn wsX3_under wsX3_under := goodIn_r _ [0, 1, 2, 3, 4, 5, 6, 7, 8, 9, 10, 11, 12, 13, 14, 15] (by decide +kernel) (by decide +kernel)
set_option maxRecDepth 20000 in
theorem gX3_under_X3_under : GoodIn wsX3_under (wsV RX3 68 RX3 yX3_under wsX3_under) := goodIn_app (goodIn_of _ (by decide +kernel)) ggX3_under_X3_under
theorem dX3_under_0 : decode cX3_under 0 = .ok (.iload_n 1, 1) := by decide +kernel
theorem dX3_under_1 : decode cX3_under 1 = .ok (.iconst (-1), 1) := by decide +kernel
theorem dX3_under_2 : decode cX3_under 2 = .ok (.if_icmp .ne 5, 3) := by decide +kernel
theorem dX3_under_5 : decode cX3_under 5 = .ok (.iconst 0, 1) := by decide +kernel
theorem dX3_under_6 : decode cX3_under 6 = .ok (.ireturn, 1) := by decide +kernel
theorem dX3_under_7 : decode cX3_under 7 = .ok (.aload_n 0, 1) := by decide +kernel
theorem dX3_under_8 : decode cX3_under 8 = .ok (.getfield 9, 3) := by decide +kernel
theorem dX3_under_11 : decode cX3_under 11 = .ok (.iconst 0, 1) := by decide +kernel
theorem dX3_under_12 : decode cX3_under 12 = .ok (.iload_n 1, 1) := by decide +kernel
theorem dX3_under_13 : decode cX3_under 13 = .ok (.iadd, 1) := by decide +kernel
theorem dX3_under_14 : decode cX3_under 14 = .ok (.iaload, 1) := by decide +kernel
theorem dX3_under_15 : decode cX3_under 15 = .ok (.iload_n 2, 1) := by decide +kernel
theorem dX3_under_16 : decode cX3_under 16 = .ok (.if_icmp .ge 36, 3) := by decide +kernel
theorem dX3_under_19 : decode cX3_under 19 = .ok (.iconst 1, 1) := by decide +kernel
theorem dX3_under_20 : decode cX3_under 20 = .ok (.aload_n 0, 1) := by decide +kernel
theorem dX3_under_21 : decode cX3_under 21 = .ok (.aload_n 0, 1) := by decide +kernel
theorem dX3_under_22 : decode cX3_under 22 = .ok (.getfield 9, 3) := by decide +kernel
theorem dX3_under_25 : decode cX3_under 25 = .ok (.bipush 40, 2) := by decide +kernel
theorem dX3_under_27 : decode cX3_under 27 = .ok (.iload_n 1, 1) := by decide +kernel
theorem dX3_under_28 : decode cX3_under 28 = .ok (.iadd, 1) := by decide +kernel
theorem dX3_under_29 : decode cX3_under 29 = .ok (.iaload, 1) := by decide +kernel
theorem dX3_under_30 : decode cX3_under 30 = .ok (.invokevirtual 50, 3) := by decide +kernel
theorem dX3_under_33 : decode cX3_under 33 = .ok (.iadd, 1) := by decide +kernel
theorem dX3_under_34 : decode cX3_under 34 = .ok (.aload_n 0, 1) := by decide +kernel
theorem dX3_under_35 : decode cX3_under 35 = .ok (.aload_n 0, 1) := by decide +kernel
theorem dX3_under_36 : decode cX3_under 36 = .ok (.getfield 9, 3) := by decide +kernel
theorem dX3_under_39 : decode cX3_under 39 = .ok (.bipush 80, 2) := by decide +kernel
theorem dX3_under_41 : decode cX3_under 41 = .ok (.iload_n 1, 1) := by decide +kernel
theorem dX3_under_42 : decode cX3_under 42 = .ok (.iadd, 1) := by decide +kernel
theorem dX3_under_43 : decode cX3_under 43 = .ok (.iaload, 1) := by decide +kernel
theorem dX3_under_44 : decode cX3_under 44 = .ok (.iload_n 2, 1) := by decide +kernel
theorem dX3_under_45 : decode cX3_under 45 = .ok (.invokevirtual 68, 3) := by decide +kernel
theorem dX3_under_48 : decode cX3_under 48 = .ok (.iadd, 1) := by decide +kernel
theorem dX3_under_49 : decode cX3_under 49 = .ok (.goto 17, 3) := by decide +kernel
theorem dX3_under_52 : decode cX3_under 52 = .ok (.aload_n 0, 1) := by decide +kernel
theorem dX3_under_53 : decode cX3_under 53 = .ok (.aload_n 0, 1) := by decide +kernel
theorem dX3_under_54 : decode cX3_under 54 = .ok (.getfield 9, 3) := by decide +kernel
theorem dX3_under_57 : decode cX3_under 57 = .ok (.bipush 40, 2) := by decide +kernel
theorem dX3_under_59 : decode cX3_under 59 = .ok (.iload_n 1, 1) := by decide +kernel
theorem dX3_under_60 : decode cX3_under 60 = .ok (.iadd, 1) := by decide +kernel
theorem dX3_under_61 : decode cX3_under 61 = .ok (.iaload, 1) := by decide +kernel
theorem dX3_under_62 : decode cX3_under 62 = .ok (.iload_n 2, 1) := by decide +kernel
theorem dX3_under_63 : decode cX3_under 63 = .ok (.invokevirtual 68, 3) := by decide +kernel
theorem dX3_under_66 : decode cX3_under 66 = .ok (.ireturn, 1) := by decide +kernel
set_option maxRecDepth 20000 in
theorem ggX3_nth_X3_count : GoodIn wsX3_nth wsX3_count := goodIn_r _ [6, 1, 2, 3, 4, 5, 10, 11, 12, 13, 14, 15] (by decide +kernel) (by decide +kernel)
set_option maxRecDepth 20000 in
theorem gX3_nth_X3_count : GoodIn wsX3_nth (wsV RX3 50 RX3 yX3_count wsX3_count) := goodIn_app (goodIn_of _ (by decide +kernel)) ggX3_nth_X3_count
set_option maxRecDepth 20000 in
theorem ggX3_nth_X3_nth : GoodIn wsX3_nth wsX3_nth := goodIn_r _ [0, 1, 2, 3, 4, 5, 6, 7, 8, 9, 10, 11, 12, 13, 14, 15] (by decide +kernel) (by decide +kernel)
set_option maxRecDepth 20000 in
theorem gX3_nth_X3_nth : GoodIn wsX3_nth (wsV RX3 71 RX3 yX3_nth wsX3_nth) := goodIn_app (goodIn_of _ (by decide +kernel)) ggX3_nth_X3_nth
theorem dX3_nth_0 : decode cX3_nth 0 = .ok (.aload_n 0, 1) := by decide +kernel
theorem dX3_nth_1 : decode cX3_nth 1 = .ok (.aload_n 0, 1) := by decide +kernel
theorem dX3_nth_2 : decode cX3_nth 2 = .ok (.getfield 9, 3) := by decide +kernel
theorem dX3_nth_5 : decode cX3_nth 5 = .ok (.bipush 40, 2) := by decide +kernel
theorem dX3_nth_7 : decode cX3_nth 7 = .ok (.iload_n 1, 1) := by decide +kernel
theorem dX3_nth_8 : decode cX3_nth 8 = .ok (.iadd, 1) := by decide +kernel
theorem dX3_nth_9 : decode cX3_nth 9 = .ok (.iaload, 1) := by decide +kernel
theorem dX3_nth_10 : decode cX3_nth 10 = .ok (.invokevirtual 50, 3) := by decide +kernel
theorem dX3_nth_13 : decode cX3_nth 13 = .ok (.istore_n 3, 1) := by decide +kernel
theorem dX3_nth_14 : decode cX3_nth 14 = .ok (.iload_n 2, 1) := by decide +kernel
theorem dX3_nth_15 : decode cX3_nth 15 = .ok (.iload_n 3, 1) := by decide +kernel
theorem dX3_nth_16 : decode cX3_nth 16 = .ok (.if_icmp .ne 5, 3) := by decide +kernel
theorem dX3_nth_19 : decode cX3_nth 19 = .ok (.iload_n 1, 1) := by decide +kernel
theorem dX3_nth_20 : decode cX3_nth 20 = .ok (.ireturn, 1) := by decide +kernel
theorem dX3_nth_21 : decode cX3_nth 21 = .ok (.iload_n 2, 1) := by decide +kernel
theorem dX3_nth_22 : decode cX3_nth 22 = .ok (.iload_n 3, 1) := by decide +kernel
theorem dX3_nth_23 : decode cX3_nth 23 = .ok (.if_icmp .ge 20, 3) := by decide +kernel
theorem dX3_nth_26 : decode cX3_nth 26 = .ok (.aload_n 0, 1) := by decide +kernel
theorem dX3_nth_27 : decode cX3_nth 27 = .ok (.aload_n 0, 1) := by decide +kernel
theorem dX3_nth_28 : decode cX3_nth 28 = .ok (.getfield 9, 3) := by decide +kernel
theorem dX3_nth_31 : decode cX3_nth 31 = .ok (.bipush 40, 2) := by decide +kernel
theorem dX3_nth_33 : decode cX3_nth 33 = .ok (.iload_n 1, 1) := by decide +kernel
theorem dX3_nth_34 : decode cX3_nth 34 = .ok (.iadd, 1) := by decide +kernel
theorem dX3_nth_35 : decode cX3_nth 35 = .ok (.iaload, 1) := by decide +kernel
theorem dX3_nth_36 : decode cX3_nth 36 = .ok (.iload_n 2, 1) := by decide +kernel
theorem dX3_nth_37 : decode cX3_nth 37 = .ok (.invokevirtual 71, 3) := by decide +kernel
theorem dX3_nth_40 : decode cX3_nth 40 = .ok (.goto 21, 3) := by decide +kernel
theorem dX3_nth_43 : decode cX3_nth 43 = .ok (.aload_n 0, 1) := by decide +kernel
theorem dX3_nth_44 : decode cX3_nth 44 = .ok (.aload_n 0, 1) := by decide +kernel
theorem dX3_nth_45 : decode cX3_nth 45 = .ok (.getfield 9, 3) := by decide +kernel
theorem dX3_nth_48 : decode cX3_nth 48 = .ok (.bipush 80, 2) := by decide +kernel
theorem dX3_nth_50 : decode cX3_nth 50 = .ok (.iload_n 1, 1) := by decide +kernel
theorem dX3_nth_51 : decode cX3_nth 51 = .ok (.iadd, 1) := by decide +kernel
theorem dX3_nth_52 : decode cX3_nth 52 = .ok (.iaload, 1) := by decide +kernel
theorem dX3_nth_53 : decode cX3_nth 53 = .ok (.iload_n 2, 1) := by decide +kernel
theorem dX3_nth_54 : decode cX3_nth 54 = .ok (.iload_n 3, 1) := by decide +kernel
theorem dX3_nth_55 : decode cX3_nth 55 = .ok (.isub, 1) := by decide +kernel
theorem dX3_nth_56 : decode cX3_nth 56 = .ok (.iconst 1, 1) := by decide +kernel
theorem dX3_nth_57 : decode cX3_nth 57 = .ok (.isub, 1) := by decide +kernel
theorem dX3_nth_58 : decode cX3_nth 58 = .ok (.invokevirtual 71, 3) := by decide +kernel
theorem dX3_nth_61 : decode cX3_nth 61 = .ok (.ireturn, 1) := by decide +kernel
theorem dX3_sizeAt_0 : decode cX3_sizeAt 0 = .ok (.iload_n 1, 1) := by decide +kernel
theorem dX3_sizeAt_1 : decode cX3_sizeAt 1 = .ok (.iconst (-1), 1) := by decide +kernel
theorem dX3_sizeAt_2 : decode cX3_sizeAt 2 = .ok (.if_icmp .ne 7, 3) := by decide +kernel
theorem dX3_sizeAt_5 : decode cX3_sizeAt 5 = .ok (.iconst (-1), 1) := by decide +kernel
theorem dX3_sizeAt_6 : decode cX3_sizeAt 6 = .ok (.goto 11, 3) := by decide +kernel
theorem dX3_sizeAt_9 : decode cX3_sizeAt 9 = .ok (.aload_n 0, 1) := by decide +kernel
theorem dX3_sizeAt_10 : decode cX3_sizeAt 10 = .ok (.getfield 9, 3) := by decide +kernel
theorem dX3_sizeAt_13 : decode cX3_sizeAt 13 = .ok (.iconst 0, 1) := by decide +kernel
theorem dX3_sizeAt_14 : decode cX3_sizeAt 14 = .ok (.iload_n 1, 1) := by decide +kernel
theorem dX3_sizeAt_15 : decode cX3_sizeAt 15 = .ok (.iadd, 1) := by decide +kernel
theorem dX3_sizeAt_16 : decode cX3_sizeAt 16 = .ok (.iaload, 1) := by decide +kernel
theorem dX3_sizeAt_17 : decode cX3_sizeAt 17 = .ok (.ireturn, 1) := by decide +kernel
theorem dX3_plantDeep_0 : decode cX3_plantDeep 0 = .ok (.iconst 0, 1) := by decide +kernel
theorem dX3_plantDeep_1 : decode cX3_plantDeep 1 = .ok (.istore_n 3, 1) := by decide +kernel
theorem dX3_plantDeep_2 : decode cX3_plantDeep 2 = .ok (.aload_n 0, 1) := by decide +kernel
theorem dX3_plantDeep_3 : decode cX3_plantDeep 3 = .ok (.getfield 9, 3) := by decide +kernel
theorem dX3_plantDeep_6 : decode cX3_plantDeep 6 = .ok (.sipush 200, 3) := by decide +kernel
theorem dX3_plantDeep_9 : decode cX3_plantDeep 9 = .ok (.iload_n 1, 1) := by decide +kernel
theorem dX3_plantDeep_10 : decode cX3_plantDeep 10 = .ok (.iadd, 1) := by decide +kernel
theorem dX3_plantDeep_11 : decode cX3_plantDeep 11 = .ok (.iaload, 1) := by decide +kernel
theorem dX3_plantDeep_12 : decode cX3_plantDeep 12 = .ok (.istore 4, 2) := by decide +kernel
theorem dX3_plantDeep_14 : decode cX3_plantDeep 14 = .ok (.iload 4, 2) := by decide +kernel
theorem dX3_plantDeep_16 : decode cX3_plantDeep 16 = .ok (.iconst (-1), 1) := by decide +kernel
theorem dX3_plantDeep_17 : decode cX3_plantDeep 17 = .ok (.if_icmp .eq 52, 3) := by decide +kernel
theorem dX3_plantDeep_20 : decode cX3_plantDeep 20 = .ok (.aload_n 0, 1) := by decide +kernel
theorem dX3_plantDeep_21 : decode cX3_plantDeep 21 = .ok (.getfield 9, 3) := by decide +kernel
theorem dX3_plantDeep_24 : decode cX3_plantDeep 24 = .ok (.iconst 0, 1) := by decide +kernel
theorem dX3_plantDeep_25 : decode cX3_plantDeep 25 = .ok (.iload 4, 2) := by decide +kernel
theorem dX3_plantDeep_27 : decode cX3_plantDeep 27 = .ok (.iadd, 1) := by decide +kernel
theorem dX3_plantDeep_28 : decode cX3_plantDeep 28 = .ok (.iaload, 1) := by decide +kernel
theorem dX3_plantDeep_29 : decode cX3_plantDeep 29 = .ok (.iload_n 2, 1) := by decide +kernel
theorem dX3_plantDeep_30 : decode cX3_plantDeep 30 = .ok (.if_icmp .eq 39, 3) := by decide +kernel
theorem dX3_plantDeep_33 : decode cX3_plantDeep 33 = .ok (.iinc 3 1, 3) := by decide +kernel
theorem dX3_plantDeep_36 : decode cX3_plantDeep 36 = .ok (.aload_n 0, 1) := by decide +kernel
theorem dX3_plantDeep_37 : decode cX3_plantDeep 37 = .ok (.getfield 9, 3) := by decide +kernel
theorem dX3_plantDeep_40 : decode cX3_plantDeep 40 = .ok (.iload_n 2, 1) := by decide +kernel
theorem dX3_plantDeep_41 : decode cX3_plantDeep 41 = .ok (.aload_n 0, 1) := by decide +kernel
theorem dX3_plantDeep_42 : decode cX3_plantDeep 42 = .ok (.getfield 9, 3) := by decide +kernel
theorem dX3_plantDeep_45 : decode cX3_plantDeep 45 = .ok (.iconst 0, 1) := by decide +kernel
theorem dX3_plantDeep_46 : decode cX3_plantDeep 46 = .ok (.iload 4, 2) := by decide +kernel
theorem dX3_plantDeep_48 : decode cX3_plantDeep 48 = .ok (.iadd, 1) := by decide +kernel
theorem dX3_plantDeep_49 : decode cX3_plantDeep 49 = .ok (.iaload, 1) := by decide +kernel
theorem dX3_plantDeep_50 : decode cX3_plantDeep 50 = .ok (.if_icmp .ge 8, 3) := by decide +kernel
theorem dX3_plantDeep_53 : decode cX3_plantDeep 53 = .ok (.bipush 40, 2) := by decide +kernel
theorem dX3_plantDeep_55 : decode cX3_plantDeep 55 = .ok (.goto 5, 3) := by decide +kernel
theorem dX3_plantDeep_58 : decode cX3_plantDeep 58 = .ok (.bipush 80, 2) := by decide +kernel
theorem dX3_plantDeep_60 : decode cX3_plantDeep 60 = .ok (.iload 4, 2) := by decide +kernel
theorem dX3_plantDeep_62 : decode cX3_plantDeep 62 = .ok (.iadd, 1) := by decide +kernel
theorem dX3_plantDeep_63 : decode cX3_plantDeep 63 = .ok (.iaload, 1) := by decide +kernel
theorem dX3_plantDeep_64 : decode cX3_plantDeep 64 = .ok (.istore 4, 2) := by decide +kernel
theorem dX3_plantDeep_66 : decode cX3_plantDeep 66 = .ok (.goto (-52), 3) := by decide +kernel
theorem dX3_plantDeep_69 : decode cX3_plantDeep 69 = .ok (.iload 4, 2) := by decide +kernel
theorem dX3_plantDeep_71 : decode cX3_plantDeep 71 = .ok (.iconst (-1), 1) := by decide +kernel
theorem dX3_plantDeep_72 : decode cX3_plantDeep 72 = .ok (.if_icmp .ne 7, 3) := by decide +kernel
theorem dX3_plantDeep_75 : decode cX3_plantDeep 75 = .ok (.iload_n 3, 1) := by decide +kernel
theorem dX3_plantDeep_76 : decode cX3_plantDeep 76 = .ok (.goto 4, 3) := by decide +kernel
theorem dX3_plantDeep_79 : decode cX3_plantDeep 79 = .ok (.iconst (-1), 1) := by decide +kernel
theorem dX3_plantDeep_80 : decode cX3_plantDeep 80 = .ok (.ireturn, 1) := by decide +kernel
set_option maxRecDepth 20000 in
theorem ggX3_planted_X3_free : GoodIn wsX3_planted wsX3_free := goodIn_r _ [7, 1, 36, 37, 38, 39, 40, 41] (by decide +kernel) (by decide +kernel)
set_option maxRecDepth 20000 in
theorem gX3_planted_X3_free : GoodIn wsX3_planted (wsV RX3 74 RX3 yX3_free wsX3_free) := goodIn_app (goodIn_of _ (by decide +kernel)) ggX3_planted_X3_free
set_option maxRecDepth 20000 in
theorem ggX3_planted_X3_hang : GoodIn wsX3_planted wsX3_hang := goodIn_r _ [11, 1, 36, 37, 38, 39, 40, 41] (by decide +kernel) (by decide +kernel)
set_option maxRecDepth 20000 in
theorem gX3_planted_X3_hang : GoodIn wsX3_planted (wsV RX3 39 RX3 yX3_hang wsX3_hang) := goodIn_app (goodIn_of _ (by decide +kernel)) ggX3_planted_X3_hang
set_option maxRecDepth 20000 in
theorem ggX3_planted_X3_deep : GoodIn wsX3_planted wsX3_deep := goodIn_r _ [15, 1, 36, 37, 38, 39, 40, 41] (by decide +kernel) (by decide +kernel)
set_option maxRecDepth 20000 in
theorem gX3_planted_X3_deep : GoodIn wsX3_planted (wsV RX3 81 RX3 yX3_deep wsX3_deep) := goodIn_app (goodIn_of _ (by decide +kernel)) ggX3_planted_X3_deep
set_option maxRecDepth 20000 in
theorem ggX3_planted_X3_raiseIn : GoodIn wsX3_planted wsX3_raiseIn := goodIn_r _ [19, 1, 20, 21, 22, 6, 23, 24, 25, 26, 27, 28, 29, 30, 31, 32, 33, 34, 35, 8, 9, 10, 11, 36, 37, 38, 39, 40, 41] (by decide +kernel) (by decide +kernel)
set_option maxRecDepth 20000 in
theorem gX3_planted_X3_raiseIn : GoodIn wsX3_planted (wsV RX3 84 RX3 yX3_raiseIn wsX3_raiseIn) := goodIn_app (goodIn_of _ (by decide +kernel)) ggX3_planted_X3_raiseIn
theorem dX3_planted_0 : decode cX3_planted 0 = .ok (.aload_n 0, 1) := by decide +kernel
theorem dX3_planted_1 : decode cX3_planted 1 = .ok (.invokevirtual 74, 3) := by decide +kernel
theorem dX3_planted_4 : decode cX3_planted 4 = .ok (.istore_n 3, 1) := by decide +kernel
theorem dX3_planted_5 : decode cX3_planted 5 = .ok (.iconst (-1), 1) := by decide +kernel
theorem dX3_planted_6 : decode cX3_planted 6 = .ok (.istore 4, 2) := by decide +kernel
theorem dX3_planted_8 : decode cX3_planted 8 = .ok (.bipush 40, 2) := by decide +kernel
theorem dX3_planted_10 : decode cX3_planted 10 = .ok (.istore 5, 2) := by decide +kernel
theorem dX3_planted_12 : decode cX3_planted 12 = .ok (.aload_n 0, 1) := by decide +kernel
theorem dX3_planted_13 : decode cX3_planted 13 = .ok (.getfield 9, 3) := by decide +kernel
theorem dX3_planted_16 : decode cX3_planted 16 = .ok (.sipush 200, 3) := by decide +kernel
theorem dX3_planted_19 : decode cX3_planted 19 = .ok (.iload_n 1, 1) := by decide +kernel
theorem dX3_planted_20 : decode cX3_planted 20 = .ok (.iadd, 1) := by decide +kernel
theorem dX3_planted_21 : decode cX3_planted 21 = .ok (.iaload, 1) := by decide +kernel
theorem dX3_planted_22 : decode cX3_planted 22 = .ok (.istore 6, 2) := by decide +kernel
theorem dX3_planted_24 : decode cX3_planted 24 = .ok (.iload 6, 2) := by decide +kernel
theorem dX3_planted_26 : decode cX3_planted 26 = .ok (.iconst (-1), 1) := by decide +kernel
theorem dX3_planted_27 : decode cX3_planted 27 = .ok (.if_icmp .eq 44, 3) := by decide +kernel
theorem dX3_planted_30 : decode cX3_planted 30 = .ok (.iload 6, 2) := by decide +kernel
theorem dX3_planted_32 : decode cX3_planted 32 = .ok (.istore 4, 2) := by decide +kernel
theorem dX3_planted_34 : decode cX3_planted 34 = .ok (.iload_n 2, 1) := by decide +kernel
theorem dX3_planted_35 : decode cX3_planted 35 = .ok (.aload_n 0, 1) := by decide +kernel
theorem dX3_planted_36 : decode cX3_planted 36 = .ok (.getfield 9, 3) := by decide +kernel
theorem dX3_planted_39 : decode cX3_planted 39 = .ok (.iconst 0, 1) := by decide +kernel
theorem dX3_planted_40 : decode cX3_planted 40 = .ok (.iload 6, 2) := by decide +kernel
theorem dX3_planted_42 : decode cX3_planted 42 = .ok (.iadd, 1) := by decide +kernel
theorem dX3_planted_43 : decode cX3_planted 43 = .ok (.iaload, 1) := by decide +kernel
theorem dX3_planted_44 : decode cX3_planted 44 = .ok (.if_icmp .ge 8, 3) := by decide +kernel
theorem dX3_planted_47 : decode cX3_planted 47 = .ok (.bipush 40, 2) := by decide +kernel
theorem dX3_planted_49 : decode cX3_planted 49 = .ok (.goto 5, 3) := by decide +kernel
theorem dX3_planted_52 : decode cX3_planted 52 = .ok (.bipush 80, 2) := by decide +kernel
theorem dX3_planted_54 : decode cX3_planted 54 = .ok (.istore 5, 2) := by decide +kernel
theorem dX3_planted_56 : decode cX3_planted 56 = .ok (.aload_n 0, 1) := by decide +kernel
theorem dX3_planted_57 : decode cX3_planted 57 = .ok (.getfield 9, 3) := by decide +kernel
theorem dX3_planted_60 : decode cX3_planted 60 = .ok (.iload 5, 2) := by decide +kernel
theorem dX3_planted_62 : decode cX3_planted 62 = .ok (.iload 6, 2) := by decide +kernel
theorem dX3_planted_64 : decode cX3_planted 64 = .ok (.iadd, 1) := by decide +kernel
theorem dX3_planted_65 : decode cX3_planted 65 = .ok (.iaload, 1) := by decide +kernel
theorem dX3_planted_66 : decode cX3_planted 66 = .ok (.istore 6, 2) := by decide +kernel
theorem dX3_planted_68 : decode cX3_planted 68 = .ok (.goto (-44), 3) := by decide +kernel
theorem dX3_planted_71 : decode cX3_planted 71 = .ok (.aload_n 0, 1) := by decide +kernel
theorem dX3_planted_72 : decode cX3_planted 72 = .ok (.getfield 9, 3) := by decide +kernel
theorem dX3_planted_75 : decode cX3_planted 75 = .ok (.iconst 0, 1) := by decide +kernel
theorem dX3_planted_76 : decode cX3_planted 76 = .ok (.iload_n 3, 1) := by decide +kernel
theorem dX3_planted_77 : decode cX3_planted 77 = .ok (.iadd, 1) := by decide +kernel
theorem dX3_planted_78 : decode cX3_planted 78 = .ok (.iload_n 2, 1) := by decide +kernel
theorem dX3_planted_79 : decode cX3_planted 79 = .ok (.iastore, 1) := by decide +kernel
theorem dX3_planted_80 : decode cX3_planted 80 = .ok (.aload_n 0, 1) := by decide +kernel
theorem dX3_planted_81 : decode cX3_planted 81 = .ok (.getfield 9, 3) := by decide +kernel
theorem dX3_planted_84 : decode cX3_planted 84 = .ok (.bipush 40, 2) := by decide +kernel
theorem dX3_planted_86 : decode cX3_planted 86 = .ok (.iload_n 3, 1) := by decide +kernel
theorem dX3_planted_87 : decode cX3_planted 87 = .ok (.iadd, 1) := by decide +kernel
theorem dX3_planted_88 : decode cX3_planted 88 = .ok (.iconst (-1), 1) := by decide +kernel
theorem dX3_planted_89 : decode cX3_planted 89 = .ok (.iastore, 1) := by decide +kernel
theorem dX3_planted_90 : decode cX3_planted 90 = .ok (.aload_n 0, 1) := by decide +kernel
theorem dX3_planted_91 : decode cX3_planted 91 = .ok (.getfield 9, 3) := by decide +kernel
theorem dX3_planted_94 : decode cX3_planted 94 = .ok (.bipush 80, 2) := by decide +kernel
theorem dX3_planted_96 : decode cX3_planted 96 = .ok (.iload_n 3, 1) := by decide +kernel
theorem dX3_planted_97 : decode cX3_planted 97 = .ok (.iadd, 1) := by decide +kernel
theorem dX3_planted_98 : decode cX3_planted 98 = .ok (.iconst (-1), 1) := by decide +kernel
theorem dX3_planted_99 : decode cX3_planted 99 = .ok (.iastore, 1) := by decide +kernel
theorem dX3_planted_100 : decode cX3_planted 100 = .ok (.aload_n 0, 1) := by decide +kernel
theorem dX3_planted_101 : decode cX3_planted 101 = .ok (.getfield 9, 3) := by decide +kernel
theorem dX3_planted_104 : decode cX3_planted 104 = .ok (.sipush 160, 3) := by decide +kernel
theorem dX3_planted_107 : decode cX3_planted 107 = .ok (.iload_n 3, 1) := by decide +kernel
theorem dX3_planted_108 : decode cX3_planted 108 = .ok (.iadd, 1) := by decide +kernel
theorem dX3_planted_109 : decode cX3_planted 109 = .ok (.iconst 0, 1) := by decide +kernel
theorem dX3_planted_110 : decode cX3_planted 110 = .ok (.iastore, 1) := by decide +kernel
theorem dX3_planted_111 : decode cX3_planted 111 = .ok (.aload_n 0, 1) := by decide +kernel
theorem dX3_planted_112 : decode cX3_planted 112 = .ok (.getfield 9, 3) := by decide +kernel
theorem dX3_planted_115 : decode cX3_planted 115 = .ok (.bipush 120, 2) := by decide +kernel
theorem dX3_planted_117 : decode cX3_planted 117 = .ok (.iload_n 3, 1) := by decide +kernel
theorem dX3_planted_118 : decode cX3_planted 118 = .ok (.iadd, 1) := by decide +kernel
theorem dX3_planted_119 : decode cX3_planted 119 = .ok (.iconst (-1), 1) := by decide +kernel
theorem dX3_planted_120 : decode cX3_planted 120 = .ok (.iastore, 1) := by decide +kernel
theorem dX3_planted_121 : decode cX3_planted 121 = .ok (.aload_n 0, 1) := by decide +kernel
theorem dX3_planted_122 : decode cX3_planted 122 = .ok (.iload_n 3, 1) := by decide +kernel
theorem dX3_planted_123 : decode cX3_planted 123 = .ok (.iload 4, 2) := by decide +kernel
theorem dX3_planted_125 : decode cX3_planted 125 = .ok (.iload 5, 2) := by decide +kernel
theorem dX3_planted_127 : decode cX3_planted 127 = .ok (.invokevirtual 39, 3) := by decide +kernel
theorem dX3_planted_130 : decode cX3_planted 130 = .ok (.aload_n 0, 1) := by decide +kernel
theorem dX3_planted_131 : decode cX3_planted 131 = .ok (.dup, 1) := by decide +kernel
theorem dX3_planted_132 : decode cX3_planted 132 = .ok (.getfield 78, 3) := by decide +kernel
theorem dX3_planted_135 : decode cX3_planted 135 = .ok (.iconst 1, 1) := by decide +kernel
theorem dX3_planted_136 : decode cX3_planted 136 = .ok (.iadd, 1) := by decide +kernel
theorem dX3_planted_137 : decode cX3_planted 137 = .ok (.putfield 78, 3) := by decide +kernel
theorem dX3_planted_140 : decode cX3_planted 140 = .ok (.aload_n 0, 1) := by decide +kernel
theorem dX3_planted_141 : decode cX3_planted 141 = .ok (.iload_n 3, 1) := by decide +kernel
theorem dX3_planted_142 : decode cX3_planted 142 = .ok (.invokevirtual 81, 3) := by decide +kernel
theorem dX3_planted_145 : decode cX3_planted 145 = .ok (.istore 6, 2) := by decide +kernel
theorem dX3_planted_147 : decode cX3_planted 147 = .ok (.aload_n 0, 1) := by decide +kernel
theorem dX3_planted_148 : decode cX3_planted 148 = .ok (.iload_n 1, 1) := by decide +kernel
theorem dX3_planted_149 : decode cX3_planted 149 = .ok (.iload_n 3, 1) := by decide +kernel
theorem dX3_planted_150 : decode cX3_planted 150 = .ok (.invokevirtual 84, 3) := by decide +kernel
theorem dX3_planted_153 : decode cX3_planted 153 = .ok (.iload 6, 2) := by decide +kernel
theorem dX3_planted_155 : decode cX3_planted 155 = .ok (.ireturn, 1) := by decide +kernel
set_option maxRecDepth 20000 in
theorem ggX3_plant_X3_isRow : GoodIn wsX3_plant wsX3_isRow := goodIn_r _ [6] (by decide +kernel) (by decide +kernel)
set_option maxRecDepth 20000 in
theorem gX3_plant_X3_isRow : GoodIn wsX3_plant (va_wsS RX3 88 yX3_isRow wsX3_isRow) := goodIn_app (goodIn_of _ (by decide +kernel)) ggX3_plant_X3_isRow
set_option maxRecDepth 20000 in
theorem ggX3_plant_X3_no : GoodIn wsX3_plant wsX3_no := goodIn_r _ [10, 1, 55, 56, 57, 58, 59, 60] (by decide +kernel) (by decide +kernel)
set_option maxRecDepth 20000 in
theorem gX3_plant_X3_no : GoodIn wsX3_plant (wsV RX3 92 RX3 yX3_no wsX3_no) := goodIn_app (goodIn_of _ (by decide +kernel)) ggX3_plant_X3_no
set_option maxRecDepth 20000 in
theorem ggX3_plant_X3_isSize : GoodIn wsX3_plant wsX3_isSize := goodIn_r _ [13] (by decide +kernel) (by decide +kernel)
set_option maxRecDepth 20000 in
theorem gX3_plant_X3_isSize : GoodIn wsX3_plant (va_wsS RX3 95 yX3_isSize wsX3_isSize) := goodIn_app (goodIn_of _ (by decide +kernel)) ggX3_plant_X3_isSize
set_option maxRecDepth 20000 in
theorem ggX3_plant_X3_find : GoodIn wsX3_plant wsX3_find := goodIn_r _ [17, 18, 55, 56, 57, 58, 59, 60] (by decide +kernel) (by decide +kernel)
set_option maxRecDepth 20000 in
theorem gX3_plant_X3_find : GoodIn wsX3_plant (wsV RX3 98 RX3 yX3_find wsX3_find) := goodIn_app (goodIn_of _ (by decide +kernel)) ggX3_plant_X3_find
set_option maxRecDepth 20000 in
theorem ggX3_plant_X3_planted : GoodIn wsX3_plant wsX3_planted := goodIn_r _ [22, 18, 2, 23, 24, 25, 5, 26, 27, 28, 29, 30, 31, 32, 33, 34, 35, 36, 37, 38, 39, 40, 41, 42, 43, 44, 45, 46, 47, 48, 49, 50, 51, 52, 53, 54, 55, 56, 57, 58, 59, 60] (by decide +kernel) (by decide +kernel)
set_option maxRecDepth 20000 in
theorem gX3_plant_X3_planted : GoodIn wsX3_plant (wsV RX3 101 RX3 yX3_planted wsX3_planted) := goodIn_app (goodIn_of _ (by decide +kernel)) ggX3_plant_X3_planted
theorem dX3_plant_0 : decode cX3_plant 0 = .ok (.aload_n 0, 1) := by decide +kernel
theorem dX3_plant_1 : decode cX3_plant 1 = .ok (.iconst 0, 1) := by decide +kernel
theorem dX3_plant_2 : decode cX3_plant 2 = .ok (.putfield 16, 3) := by decide +kernel
theorem dX3_plant_5 : decode cX3_plant 5 = .ok (.iload_n 1, 1) := by decide +kernel
theorem dX3_plant_6 : decode cX3_plant 6 = .ok (.invokestatic 88, 3) := by decide +kernel
theorem dX3_plant_9 : decode cX3_plant 9 = .ok (.ifCond .ne 9, 3) := by decide +kernel
theorem dX3_plant_12 : decode cX3_plant 12 = .ok (.aload_n 0, 1) := by decide +kernel
theorem dX3_plant_13 : decode cX3_plant 13 = .ok (.iconst 1, 1) := by decide +kernel
theorem dX3_plant_14 : decode cX3_plant 14 = .ok (.invokevirtual 92, 3) := by decide +kernel
theorem dX3_plant_17 : decode cX3_plant 17 = .ok (.ireturn, 1) := by decide +kernel
theorem dX3_plant_18 : decode cX3_plant 18 = .ok (.iload_n 2, 1) := by decide +kernel
theorem dX3_plant_19 : decode cX3_plant 19 = .ok (.invokestatic 95, 3) := by decide +kernel
theorem dX3_plant_22 : decode cX3_plant 22 = .ok (.ifCond .ne 9, 3) := by decide +kernel
theorem dX3_plant_25 : decode cX3_plant 25 = .ok (.aload_n 0, 1) := by decide +kernel
theorem dX3_plant_26 : decode cX3_plant 26 = .ok (.iconst 2, 1) := by decide +kernel
theorem dX3_plant_27 : decode cX3_plant 27 = .ok (.invokevirtual 92, 3) := by decide +kernel
theorem dX3_plant_30 : decode cX3_plant 30 = .ok (.ireturn, 1) := by decide +kernel
theorem dX3_plant_31 : decode cX3_plant 31 = .ok (.aload_n 0, 1) := by decide +kernel
theorem dX3_plant_32 : decode cX3_plant 32 = .ok (.getfield 78, 3) := by decide +kernel
theorem dX3_plant_35 : decode cX3_plant 35 = .ok (.bipush 40, 2) := by decide +kernel
theorem dX3_plant_37 : decode cX3_plant 37 = .ok (.if_icmp .eq 13, 3) := by decide +kernel
theorem dX3_plant_40 : decode cX3_plant 40 = .ok (.aload_n 0, 1) := by decide +kernel
theorem dX3_plant_41 : decode cX3_plant 41 = .ok (.iload_n 1, 1) := by decide +kernel
theorem dX3_plant_42 : decode cX3_plant 42 = .ok (.iload_n 2, 1) := by decide +kernel
theorem dX3_plant_43 : decode cX3_plant 43 = .ok (.invokevirtual 98, 3) := by decide +kernel
theorem dX3_plant_46 : decode cX3_plant 46 = .ok (.iconst (-1), 1) := by decide +kernel
theorem dX3_plant_47 : decode cX3_plant 47 = .ok (.if_icmp .eq 9, 3) := by decide +kernel
theorem dX3_plant_50 : decode cX3_plant 50 = .ok (.aload_n 0, 1) := by decide +kernel
theorem dX3_plant_51 : decode cX3_plant 51 = .ok (.iconst 3, 1) := by decide +kernel
theorem dX3_plant_52 : decode cX3_plant 52 = .ok (.invokevirtual 92, 3) := by decide +kernel
theorem dX3_plant_55 : decode cX3_plant 55 = .ok (.ireturn, 1) := by decide +kernel
theorem dX3_plant_56 : decode cX3_plant 56 = .ok (.aload_n 0, 1) := by decide +kernel
theorem dX3_plant_57 : decode cX3_plant 57 = .ok (.iload_n 1, 1) := by decide +kernel
theorem dX3_plant_58 : decode cX3_plant 58 = .ok (.iload_n 2, 1) := by decide +kernel
theorem dX3_plant_59 : decode cX3_plant 59 = .ok (.invokevirtual 101, 3) := by decide +kernel
theorem dX3_plant_62 : decode cX3_plant 62 = .ok (.ireturn, 1) := by decide +kernel
set_option maxRecDepth 20000 in
theorem ggX3_bitten_X3_deep : GoodIn wsX3_bitten wsX3_deep := goodIn_r _ [6, 1, 31, 32, 33, 34, 35, 36] (by decide +kernel) (by decide +kernel)
set_option maxRecDepth 20000 in
theorem gX3_bitten_X3_deep : GoodIn wsX3_bitten (wsV RX3 81 RX3 yX3_deep wsX3_deep) := goodIn_app (goodIn_of _ (by decide +kernel)) ggX3_bitten_X3_deep
set_option maxRecDepth 20000 in
theorem ggX3_bitten_X3_raiseIn : GoodIn wsX3_bitten wsX3_raiseIn := goodIn_r _ [10, 1, 11, 12, 13, 5, 14, 15, 16, 17, 18, 19, 20, 21, 22, 23, 24, 25, 26, 27, 28, 29, 30, 31, 32, 33, 34, 35, 36] (by decide +kernel) (by decide +kernel)
set_option maxRecDepth 20000 in
theorem gX3_bitten_X3_raiseIn : GoodIn wsX3_bitten (wsV RX3 84 RX3 yX3_raiseIn wsX3_raiseIn) := goodIn_app (goodIn_of _ (by decide +kernel)) ggX3_bitten_X3_raiseIn
theorem dX3_bitten_0 : decode cX3_bitten 0 = .ok (.aload_n 0, 1) := by decide +kernel
theorem dX3_bitten_1 : decode cX3_bitten 1 = .ok (.iload_n 2, 1) := by decide +kernel
theorem dX3_bitten_2 : decode cX3_bitten 2 = .ok (.invokevirtual 81, 3) := by decide +kernel
theorem dX3_bitten_5 : decode cX3_bitten 5 = .ok (.istore_n 3, 1) := by decide +kernel
theorem dX3_bitten_6 : decode cX3_bitten 6 = .ok (.aload_n 0, 1) := by decide +kernel
theorem dX3_bitten_7 : decode cX3_bitten 7 = .ok (.getfield 9, 3) := by decide +kernel
theorem dX3_bitten_10 : decode cX3_bitten 10 = .ok (.sipush 160, 3) := by decide +kernel
theorem dX3_bitten_13 : decode cX3_bitten 13 = .ok (.iload_n 2, 1) := by decide +kernel
theorem dX3_bitten_14 : decode cX3_bitten 14 = .ok (.iadd, 1) := by decide +kernel
theorem dX3_bitten_15 : decode cX3_bitten 15 = .ok (.dup2, 1) := by decide +kernel
theorem dX3_bitten_16 : decode cX3_bitten 16 = .ok (.iaload, 1) := by decide +kernel
theorem dX3_bitten_17 : decode cX3_bitten 17 = .ok (.iconst 1, 1) := by decide +kernel
theorem dX3_bitten_18 : decode cX3_bitten 18 = .ok (.iadd, 1) := by decide +kernel
theorem dX3_bitten_19 : decode cX3_bitten 19 = .ok (.iastore, 1) := by decide +kernel
theorem dX3_bitten_20 : decode cX3_bitten 20 = .ok (.aload_n 0, 1) := by decide +kernel
theorem dX3_bitten_21 : decode cX3_bitten 21 = .ok (.iload_n 1, 1) := by decide +kernel
theorem dX3_bitten_22 : decode cX3_bitten 22 = .ok (.iload_n 2, 1) := by decide +kernel
theorem dX3_bitten_23 : decode cX3_bitten 23 = .ok (.invokevirtual 84, 3) := by decide +kernel
theorem dX3_bitten_26 : decode cX3_bitten 26 = .ok (.iload_n 3, 1) := by decide +kernel
theorem dX3_bitten_27 : decode cX3_bitten 27 = .ok (.ireturn, 1) := by decide +kernel
set_option maxRecDepth 20000 in
theorem ggX3_eat_X3_isRow : GoodIn wsX3_eat wsX3_isRow := goodIn_r _ [5] (by decide +kernel) (by decide +kernel)
set_option maxRecDepth 20000 in
theorem gX3_eat_X3_isRow : GoodIn wsX3_eat (va_wsS RX3 88 yX3_isRow wsX3_isRow) := goodIn_app (goodIn_of _ (by decide +kernel)) ggX3_eat_X3_isRow
set_option maxRecDepth 20000 in
theorem ggX3_eat_X3_no : GoodIn wsX3_eat wsX3_no := goodIn_r _ [9, 1, 47, 48, 49, 50, 51, 52] (by decide +kernel) (by decide +kernel)
set_option maxRecDepth 20000 in
theorem gX3_eat_X3_no : GoodIn wsX3_eat (wsV RX3 92 RX3 yX3_no wsX3_no) := goodIn_app (goodIn_of _ (by decide +kernel)) ggX3_eat_X3_no
set_option maxRecDepth 20000 in
theorem ggX3_eat_X3_find : GoodIn wsX3_eat wsX3_find := goodIn_r _ [13, 14, 47, 48, 49, 50, 51, 52] (by decide +kernel) (by decide +kernel)
set_option maxRecDepth 20000 in
theorem gX3_eat_X3_find : GoodIn wsX3_eat (wsV RX3 98 RX3 yX3_find wsX3_find) := goodIn_app (goodIn_of _ (by decide +kernel)) ggX3_eat_X3_find
set_option maxRecDepth 20000 in
theorem ggX3_eat_X3_bitten : GoodIn wsX3_eat wsX3_bitten := goodIn_r _ [18, 14, 19, 20, 21, 4, 22, 23, 24, 25, 26, 27, 28, 29, 30, 31, 32, 33, 34, 35, 36, 37, 38, 39, 40, 41, 42, 43, 44, 45, 46, 47, 48, 49, 50, 51, 52] (by decide +kernel) (by decide +kernel)
set_option maxRecDepth 20000 in
theorem gX3_eat_X3_bitten : GoodIn wsX3_eat (wsV RX3 104 RX3 yX3_bitten wsX3_bitten) := goodIn_app (goodIn_of _ (by decide +kernel)) ggX3_eat_X3_bitten
theorem dX3_eat_0 : decode cX3_eat 0 = .ok (.aload_n 0, 1) := by decide +kernel
theorem dX3_eat_1 : decode cX3_eat 1 = .ok (.iconst 0, 1) := by decide +kernel
theorem dX3_eat_2 : decode cX3_eat 2 = .ok (.putfield 16, 3) := by decide +kernel
theorem dX3_eat_5 : decode cX3_eat 5 = .ok (.iload_n 1, 1) := by decide +kernel
theorem dX3_eat_6 : decode cX3_eat 6 = .ok (.invokestatic 88, 3) := by decide +kernel
theorem dX3_eat_9 : decode cX3_eat 9 = .ok (.ifCond .ne 9, 3) := by decide +kernel
theorem dX3_eat_12 : decode cX3_eat 12 = .ok (.aload_n 0, 1) := by decide +kernel
theorem dX3_eat_13 : decode cX3_eat 13 = .ok (.iconst 1, 1) := by decide +kernel
theorem dX3_eat_14 : decode cX3_eat 14 = .ok (.invokevirtual 92, 3) := by decide +kernel
theorem dX3_eat_17 : decode cX3_eat 17 = .ok (.ireturn, 1) := by decide +kernel
theorem dX3_eat_18 : decode cX3_eat 18 = .ok (.aload_n 0, 1) := by decide +kernel
theorem dX3_eat_19 : decode cX3_eat 19 = .ok (.iload_n 1, 1) := by decide +kernel
theorem dX3_eat_20 : decode cX3_eat 20 = .ok (.iload_n 2, 1) := by decide +kernel
theorem dX3_eat_21 : decode cX3_eat 21 = .ok (.invokevirtual 98, 3) := by decide +kernel
theorem dX3_eat_24 : decode cX3_eat 24 = .ok (.istore_n 3, 1) := by decide +kernel
theorem dX3_eat_25 : decode cX3_eat 25 = .ok (.iload_n 3, 1) := by decide +kernel
theorem dX3_eat_26 : decode cX3_eat 26 = .ok (.iconst (-1), 1) := by decide +kernel
theorem dX3_eat_27 : decode cX3_eat 27 = .ok (.if_icmp .ne 11, 3) := by decide +kernel
theorem dX3_eat_30 : decode cX3_eat 30 = .ok (.aload_n 0, 1) := by decide +kernel
theorem dX3_eat_31 : decode cX3_eat 31 = .ok (.iconst 2, 1) := by decide +kernel
theorem dX3_eat_32 : decode cX3_eat 32 = .ok (.invokevirtual 92, 3) := by decide +kernel
theorem dX3_eat_35 : decode cX3_eat 35 = .ok (.goto 9, 3) := by decide +kernel
theorem dX3_eat_38 : decode cX3_eat 38 = .ok (.aload_n 0, 1) := by decide +kernel
theorem dX3_eat_39 : decode cX3_eat 39 = .ok (.iload_n 1, 1) := by decide +kernel
theorem dX3_eat_40 : decode cX3_eat 40 = .ok (.iload_n 3, 1) := by decide +kernel
theorem dX3_eat_41 : decode cX3_eat 41 = .ok (.invokevirtual 104, 3) := by decide +kernel
theorem dX3_eat_44 : decode cX3_eat 44 = .ok (.ireturn, 1) := by decide +kernel
theorem dX3_lowered_0 : decode cX3_lowered 0 = .ok (.iload_n 1, 1) := by decide +kernel
theorem dX3_lowered_1 : decode cX3_lowered 1 = .ok (.iconst (-1), 1) := by decide +kernel
theorem dX3_lowered_2 : decode cX3_lowered 2 = .ok (.if_icmp .eq 13, 3) := by decide +kernel
theorem dX3_lowered_5 : decode cX3_lowered 5 = .ok (.aload_n 0, 1) := by decide +kernel
theorem dX3_lowered_6 : decode cX3_lowered 6 = .ok (.getfield 9, 3) := by decide +kernel
theorem dX3_lowered_9 : decode cX3_lowered 9 = .ok (.bipush 120, 2) := by decide +kernel
theorem dX3_lowered_11 : decode cX3_lowered 11 = .ok (.iload_n 1, 1) := by decide +kernel
theorem dX3_lowered_12 : decode cX3_lowered 12 = .ok (.iadd, 1) := by decide +kernel
theorem dX3_lowered_13 : decode cX3_lowered 13 = .ok (.iconst (-1), 1) := by decide +kernel
theorem dX3_lowered_14 : decode cX3_lowered 14 = .ok (.iastore, 1) := by decide +kernel
theorem dX3_lowered_15 : decode cX3_lowered 15 = .ok (.iload_n 1, 1) := by decide +kernel
theorem dX3_lowered_16 : decode cX3_lowered 16 = .ok (.ireturn, 1) := by decide +kernel
set_option maxRecDepth 20000 in
theorem ggX3_together_X3_end : GoodIn wsX3_together wsX3_end := goodIn_r _ [5, 6, 27, 28, 29, 30, 31, 32] (by decide +kernel) (by decide +kernel)
set_option maxRecDepth 20000 in
theorem gX3_together_X3_end : GoodIn wsX3_together (wsV RX3 107 RX3 yX3_end wsX3_end) := goodIn_app (goodIn_of _ (by decide +kernel)) ggX3_together_X3_end
set_option maxRecDepth 20000 in
theorem ggX3_together_X3_raise : GoodIn wsX3_together wsX3_raise := goodIn_r _ [10, 6, 11, 12, 13, 4, 14, 15, 16, 17, 18, 19, 20, 21, 22, 23, 24, 25, 26, 27, 28, 29, 30, 31, 32] (by decide +kernel) (by decide +kernel)
set_option maxRecDepth 20000 in
theorem gX3_together_X3_raise : GoodIn wsX3_together (wsV RX3 47 RX3 yX3_raise wsX3_raise) := goodIn_app (goodIn_of _ (by decide +kernel)) ggX3_together_X3_raise
set_option maxRecDepth 20000 in
theorem ggX3_together_X3_hang : GoodIn wsX3_together wsX3_hang := goodIn_r _ [26, 6, 27, 28, 29, 30, 31, 32] (by decide +kernel) (by decide +kernel)
set_option maxRecDepth 20000 in
theorem gX3_together_X3_hang : GoodIn wsX3_together (wsV RX3 39 RX3 yX3_hang wsX3_hang) := goodIn_app (goodIn_of _ (by decide +kernel)) ggX3_together_X3_hang
theorem dX3_together_0 : decode cX3_together 0 = .ok (.iload_n 1, 1) := by decide +kernel
theorem dX3_together_1 : decode cX3_together 1 = .ok (.iconst (-1), 1) := by decide +kernel
theorem dX3_together_2 : decode cX3_together 2 = .ok (.if_icmp .ne 5, 3) := by decide +kernel
theorem dX3_together_5 : decode cX3_together 5 = .ok (.iload_n 2, 1) := by decide +kernel
theorem dX3_together_6 : decode cX3_together 6 = .ok (.ireturn, 1) := by decide +kernel
theorem dX3_together_7 : decode cX3_together 7 = .ok (.aload_n 0, 1) := by decide +kernel
theorem dX3_together_8 : decode cX3_together 8 = .ok (.iload_n 1, 1) := by decide +kernel
theorem dX3_together_9 : decode cX3_together 9 = .ok (.bipush 80, 2) := by decide +kernel
theorem dX3_together_11 : decode cX3_together 11 = .ok (.invokevirtual 107, 3) := by decide +kernel
theorem dX3_together_14 : decode cX3_together 14 = .ok (.istore_n 3, 1) := by decide +kernel
theorem dX3_together_15 : decode cX3_together 15 = .ok (.aload_n 0, 1) := by decide +kernel
theorem dX3_together_16 : decode cX3_together 16 = .ok (.iload_n 3, 1) := by decide +kernel
theorem dX3_together_17 : decode cX3_together 17 = .ok (.invokevirtual 47, 3) := by decide +kernel
theorem dX3_together_20 : decode cX3_together 20 = .ok (.aload_n 0, 1) := by decide +kernel
theorem dX3_together_21 : decode cX3_together 21 = .ok (.iload_n 2, 1) := by decide +kernel
theorem dX3_together_22 : decode cX3_together 22 = .ok (.iload_n 3, 1) := by decide +kernel
theorem dX3_together_23 : decode cX3_together 23 = .ok (.bipush 80, 2) := by decide +kernel
theorem dX3_together_25 : decode cX3_together 25 = .ok (.invokevirtual 39, 3) := by decide +kernel
theorem dX3_together_28 : decode cX3_together 28 = .ok (.iload_n 3, 1) := by decide +kernel
theorem dX3_together_29 : decode cX3_together 29 = .ok (.ireturn, 1) := by decide +kernel
set_option maxRecDepth 20000 in
theorem ggX3_picked_X3_raiseIn : GoodIn wsX3_picked wsX3_raiseIn := goodIn_r _ [7, 1, 8, 9, 10, 6, 11, 12, 13, 14, 15, 16, 17, 18, 19, 20, 21, 22, 23, 24, 25, 26, 27, 40, 41, 42, 43, 44, 45] (by decide +kernel) (by decide +kernel)
set_option maxRecDepth 20000 in
theorem gX3_picked_X3_raiseIn : GoodIn wsX3_picked (wsV RX3 84 RX3 yX3_raiseIn wsX3_raiseIn) := goodIn_app (goodIn_of _ (by decide +kernel)) ggX3_picked_X3_raiseIn
set_option maxRecDepth 20000 in
theorem ggX3_picked_X3_lowered : GoodIn wsX3_picked wsX3_lowered := goodIn_r _ [31, 1, 40, 41, 42, 43, 44, 45] (by decide +kernel) (by decide +kernel)
set_option maxRecDepth 20000 in
theorem gX3_picked_X3_lowered : GoodIn wsX3_picked (wsV RX3 110 RX3 yX3_lowered wsX3_lowered) := goodIn_app (goodIn_of _ (by decide +kernel)) ggX3_picked_X3_lowered
set_option maxRecDepth 20000 in
theorem ggX3_picked_X3_together : GoodIn wsX3_picked wsX3_together := goodIn_r _ [35, 36, 37, 38, 6, 39, 1, 8, 9, 10, 11, 12, 13, 14, 15, 16, 17, 18, 19, 20, 21, 22, 23, 24, 25, 26, 27, 40, 41, 42, 43, 44, 45] (by decide +kernel) (by decide +kernel)
set_option maxRecDepth 20000 in
theorem gX3_picked_X3_together : GoodIn wsX3_picked (wsV RX3 113 RX3 yX3_together wsX3_together) := goodIn_app (goodIn_of _ (by decide +kernel)) ggX3_picked_X3_together
theorem dX3_picked_0 : decode cX3_picked 0 = .ok (.aload_n 0, 1) := by decide +kernel
theorem dX3_picked_1 : decode cX3_picked 1 = .ok (.iload_n 1, 1) := by decide +kernel
theorem dX3_picked_2 : decode cX3_picked 2 = .ok (.iload_n 2, 1) := by decide +kernel
theorem dX3_picked_3 : decode cX3_picked 3 = .ok (.invokevirtual 84, 3) := by decide +kernel
theorem dX3_picked_6 : decode cX3_picked 6 = .ok (.aload_n 0, 1) := by decide +kernel
theorem dX3_picked_7 : decode cX3_picked 7 = .ok (.aload_n 0, 1) := by decide +kernel
theorem dX3_picked_8 : decode cX3_picked 8 = .ok (.getfield 9, 3) := by decide +kernel
theorem dX3_picked_11 : decode cX3_picked 11 = .ok (.bipush 40, 2) := by decide +kernel
theorem dX3_picked_13 : decode cX3_picked 13 = .ok (.iload_n 2, 1) := by decide +kernel
theorem dX3_picked_14 : decode cX3_picked 14 = .ok (.iadd, 1) := by decide +kernel
theorem dX3_picked_15 : decode cX3_picked 15 = .ok (.iaload, 1) := by decide +kernel
theorem dX3_picked_16 : decode cX3_picked 16 = .ok (.invokevirtual 110, 3) := by decide +kernel
theorem dX3_picked_19 : decode cX3_picked 19 = .ok (.istore_n 3, 1) := by decide +kernel
theorem dX3_picked_20 : decode cX3_picked 20 = .ok (.aload_n 0, 1) := by decide +kernel
theorem dX3_picked_21 : decode cX3_picked 21 = .ok (.aload_n 0, 1) := by decide +kernel
theorem dX3_picked_22 : decode cX3_picked 22 = .ok (.getfield 9, 3) := by decide +kernel
theorem dX3_picked_25 : decode cX3_picked 25 = .ok (.bipush 80, 2) := by decide +kernel
theorem dX3_picked_27 : decode cX3_picked 27 = .ok (.iload_n 2, 1) := by decide +kernel
theorem dX3_picked_28 : decode cX3_picked 28 = .ok (.iadd, 1) := by decide +kernel
theorem dX3_picked_29 : decode cX3_picked 29 = .ok (.iaload, 1) := by decide +kernel
theorem dX3_picked_30 : decode cX3_picked 30 = .ok (.invokevirtual 110, 3) := by decide +kernel
theorem dX3_picked_33 : decode cX3_picked 33 = .ok (.istore 4, 2) := by decide +kernel
theorem dX3_picked_35 : decode cX3_picked 35 = .ok (.aload_n 0, 1) := by decide +kernel
theorem dX3_picked_36 : decode cX3_picked 36 = .ok (.getfield 9, 3) := by decide +kernel
theorem dX3_picked_39 : decode cX3_picked 39 = .ok (.sipush 160, 3) := by decide +kernel
theorem dX3_picked_42 : decode cX3_picked 42 = .ok (.iload_n 2, 1) := by decide +kernel
theorem dX3_picked_43 : decode cX3_picked 43 = .ok (.iadd, 1) := by decide +kernel
theorem dX3_picked_44 : decode cX3_picked 44 = .ok (.iaload, 1) := by decide +kernel
theorem dX3_picked_45 : decode cX3_picked 45 = .ok (.istore 5, 2) := by decide +kernel
theorem dX3_picked_47 : decode cX3_picked 47 = .ok (.aload_n 0, 1) := by decide +kernel
theorem dX3_picked_48 : decode cX3_picked 48 = .ok (.getfield 9, 3) := by decide +kernel
theorem dX3_picked_51 : decode cX3_picked 51 = .ok (.iconst 0, 1) := by decide +kernel
theorem dX3_picked_52 : decode cX3_picked 52 = .ok (.iload_n 2, 1) := by decide +kernel
theorem dX3_picked_53 : decode cX3_picked 53 = .ok (.iadd, 1) := by decide +kernel
theorem dX3_picked_54 : decode cX3_picked 54 = .ok (.iconst (-1), 1) := by decide +kernel
theorem dX3_picked_55 : decode cX3_picked 55 = .ok (.iastore, 1) := by decide +kernel
theorem dX3_picked_56 : decode cX3_picked 56 = .ok (.aload_n 0, 1) := by decide +kernel
theorem dX3_picked_57 : decode cX3_picked 57 = .ok (.dup, 1) := by decide +kernel
theorem dX3_picked_58 : decode cX3_picked 58 = .ok (.getfield 78, 3) := by decide +kernel
theorem dX3_picked_61 : decode cX3_picked 61 = .ok (.iconst 1, 1) := by decide +kernel
theorem dX3_picked_62 : decode cX3_picked 62 = .ok (.isub, 1) := by decide +kernel
theorem dX3_picked_63 : decode cX3_picked 63 = .ok (.putfield 78, 3) := by decide +kernel
theorem dX3_picked_66 : decode cX3_picked 66 = .ok (.aload_n 0, 1) := by decide +kernel
theorem dX3_picked_67 : decode cX3_picked 67 = .ok (.getfield 9, 3) := by decide +kernel
theorem dX3_picked_70 : decode cX3_picked 70 = .ok (.sipush 200, 3) := by decide +kernel
theorem dX3_picked_73 : decode cX3_picked 73 = .ok (.iload_n 1, 1) := by decide +kernel
theorem dX3_picked_74 : decode cX3_picked 74 = .ok (.iadd, 1) := by decide +kernel
theorem dX3_picked_75 : decode cX3_picked 75 = .ok (.aload_n 0, 1) := by decide +kernel
theorem dX3_picked_76 : decode cX3_picked 76 = .ok (.iload_n 3, 1) := by decide +kernel
theorem dX3_picked_77 : decode cX3_picked 77 = .ok (.iload 4, 2) := by decide +kernel
theorem dX3_picked_79 : decode cX3_picked 79 = .ok (.invokevirtual 113, 3) := by decide +kernel
theorem dX3_picked_82 : decode cX3_picked 82 = .ok (.iastore, 1) := by decide +kernel
theorem dX3_picked_83 : decode cX3_picked 83 = .ok (.iload 5, 2) := by decide +kernel
theorem dX3_picked_85 : decode cX3_picked 85 = .ok (.ireturn, 1) := by decide +kernel
set_option maxRecDepth 20000 in
theorem ggX3_pick_X3_isRow : GoodIn wsX3_pick wsX3_isRow := goodIn_r _ [5] (by decide +kernel) (by decide +kernel)
set_option maxRecDepth 20000 in
theorem gX3_pick_X3_isRow : GoodIn wsX3_pick (va_wsS RX3 88 yX3_isRow wsX3_isRow) := goodIn_app (goodIn_of _ (by decide +kernel)) ggX3_pick_X3_isRow
set_option maxRecDepth 20000 in
theorem ggX3_pick_X3_no : GoodIn wsX3_pick wsX3_no := goodIn_r _ [9, 1, 56, 57, 58, 59, 60, 61] (by decide +kernel) (by decide +kernel)
set_option maxRecDepth 20000 in
theorem gX3_pick_X3_no : GoodIn wsX3_pick (wsV RX3 92 RX3 yX3_no wsX3_no) := goodIn_app (goodIn_of _ (by decide +kernel)) ggX3_pick_X3_no
set_option maxRecDepth 20000 in
theorem ggX3_pick_X3_find : GoodIn wsX3_pick wsX3_find := goodIn_r _ [13, 14, 56, 57, 58, 59, 60, 61] (by decide +kernel) (by decide +kernel)
set_option maxRecDepth 20000 in
theorem gX3_pick_X3_find : GoodIn wsX3_pick (wsV RX3 98 RX3 yX3_find wsX3_find) := goodIn_app (goodIn_of _ (by decide +kernel)) ggX3_pick_X3_find
set_option maxRecDepth 20000 in
theorem ggX3_pick_X3_picked : GoodIn wsX3_pick wsX3_picked := goodIn_r _ [18, 14, 19, 20, 21, 22, 4, 23, 24, 25, 26, 27, 28, 29, 30, 31, 32, 33, 34, 35, 36, 37, 38, 39, 40, 41, 42, 43, 44, 45, 46, 47, 48, 49, 50, 51, 52, 53, 54, 55, 56, 57, 58, 59, 60, 61] (by decide +kernel) (by decide +kernel)
set_option maxRecDepth 20000 in
theorem gX3_pick_X3_picked : GoodIn wsX3_pick (wsV RX3 116 RX3 yX3_picked wsX3_picked) := goodIn_app (goodIn_of _ (by decide +kernel)) ggX3_pick_X3_picked
theorem dX3_pick_0 : decode cX3_pick 0 = .ok (.aload_n 0, 1) := by decide +kernel
theorem dX3_pick_1 : decode cX3_pick 1 = .ok (.iconst 0, 1) := by decide +kernel
theorem dX3_pick_2 : decode cX3_pick 2 = .ok (.putfield 16, 3) := by decide +kernel
theorem dX3_pick_5 : decode cX3_pick 5 = .ok (.iload_n 1, 1) := by decide +kernel
theorem dX3_pick_6 : decode cX3_pick 6 = .ok (.invokestatic 88, 3) := by decide +kernel
theorem dX3_pick_9 : decode cX3_pick 9 = .ok (.ifCond .ne 9, 3) := by decide +kernel
theorem dX3_pick_12 : decode cX3_pick 12 = .ok (.aload_n 0, 1) := by decide +kernel
theorem dX3_pick_13 : decode cX3_pick 13 = .ok (.iconst 1, 1) := by decide +kernel
theorem dX3_pick_14 : decode cX3_pick 14 = .ok (.invokevirtual 92, 3) := by decide +kernel
theorem dX3_pick_17 : decode cX3_pick 17 = .ok (.ireturn, 1) := by decide +kernel
theorem dX3_pick_18 : decode cX3_pick 18 = .ok (.aload_n 0, 1) := by decide +kernel
theorem dX3_pick_19 : decode cX3_pick 19 = .ok (.iload_n 1, 1) := by decide +kernel
theorem dX3_pick_20 : decode cX3_pick 20 = .ok (.iload_n 2, 1) := by decide +kernel
theorem dX3_pick_21 : decode cX3_pick 21 = .ok (.invokevirtual 98, 3) := by decide +kernel
theorem dX3_pick_24 : decode cX3_pick 24 = .ok (.istore_n 3, 1) := by decide +kernel
theorem dX3_pick_25 : decode cX3_pick 25 = .ok (.iload_n 3, 1) := by decide +kernel
theorem dX3_pick_26 : decode cX3_pick 26 = .ok (.iconst (-1), 1) := by decide +kernel
theorem dX3_pick_27 : decode cX3_pick 27 = .ok (.if_icmp .ne 11, 3) := by decide +kernel
theorem dX3_pick_30 : decode cX3_pick 30 = .ok (.aload_n 0, 1) := by decide +kernel
theorem dX3_pick_31 : decode cX3_pick 31 = .ok (.iconst 2, 1) := by decide +kernel
theorem dX3_pick_32 : decode cX3_pick 32 = .ok (.invokevirtual 92, 3) := by decide +kernel
theorem dX3_pick_35 : decode cX3_pick 35 = .ok (.goto 9, 3) := by decide +kernel
theorem dX3_pick_38 : decode cX3_pick 38 = .ok (.aload_n 0, 1) := by decide +kernel
theorem dX3_pick_39 : decode cX3_pick 39 = .ok (.iload_n 1, 1) := by decide +kernel
theorem dX3_pick_40 : decode cX3_pick 40 = .ok (.iload_n 3, 1) := by decide +kernel
theorem dX3_pick_41 : decode cX3_pick 41 = .ok (.invokevirtual 116, 3) := by decide +kernel
theorem dX3_pick_44 : decode cX3_pick 44 = .ok (.ireturn, 1) := by decide +kernel
set_option maxRecDepth 20000 in
theorem ggX3_parted_X3_under : GoodIn wsX3_parted wsX3_under := goodIn_r _ [6, 1, 7, 8, 9, 5, 10, 2, 3, 4, 43, 44, 45, 46, 47, 48] (by decide +kernel) (by decide +kernel)
set_option maxRecDepth 20000 in
theorem gX3_parted_X3_under : GoodIn wsX3_parted (wsV RX3 68 RX3 yX3_under wsX3_under) := goodIn_app (goodIn_of _ (by decide +kernel)) ggX3_parted_X3_under
set_option maxRecDepth 20000 in
theorem ggX3_parted_X3_count : GoodIn wsX3_parted wsX3_count := goodIn_r _ [10, 1, 7, 8, 9, 5, 43, 44, 45, 46, 47, 48] (by decide +kernel) (by decide +kernel)
set_option maxRecDepth 20000 in
theorem gX3_parted_X3_count : GoodIn wsX3_parted (wsV RX3 50 RX3 yX3_count wsX3_count) := goodIn_app (goodIn_of _ (by decide +kernel)) ggX3_parted_X3_count
set_option maxRecDepth 20000 in
theorem ggX3_parted_X3_nth : GoodIn wsX3_parted wsX3_nth := goodIn_r _ [14, 1, 7, 8, 9, 5, 10, 11, 12, 13, 43, 44, 45, 46, 47, 48] (by decide +kernel) (by decide +kernel)
set_option maxRecDepth 20000 in
theorem gX3_parted_X3_nth : GoodIn wsX3_parted (wsV RX3 71 RX3 yX3_nth wsX3_nth) := goodIn_app (goodIn_of _ (by decide +kernel)) ggX3_parted_X3_nth
set_option maxRecDepth 20000 in
theorem ggX3_parted_X3_raiseIn : GoodIn wsX3_parted wsX3_raiseIn := goodIn_r _ [18, 1, 19, 20, 21, 5, 22, 23, 24, 25, 26, 27, 28, 29, 30, 31, 32, 33, 34, 35, 36, 37, 38, 43, 44, 45, 46, 47, 48] (by decide +kernel) (by decide +kernel)
set_option maxRecDepth 20000 in
theorem gX3_parted_X3_raiseIn : GoodIn wsX3_parted (wsV RX3 84 RX3 yX3_raiseIn wsX3_raiseIn) := goodIn_app (goodIn_of _ (by decide +kernel)) ggX3_parted_X3_raiseIn
set_option maxRecDepth 20000 in
theorem ggX3_parted_X3_lowered : GoodIn wsX3_parted wsX3_lowered := goodIn_r _ [42, 1, 43, 44, 45, 46, 47, 48] (by decide +kernel) (by decide +kernel)
set_option maxRecDepth 20000 in
theorem gX3_parted_X3_lowered : GoodIn wsX3_parted (wsV RX3 110 RX3 yX3_lowered wsX3_lowered) := goodIn_app (goodIn_of _ (by decide +kernel)) ggX3_parted_X3_lowered
theorem dX3_parted_0 : decode cX3_parted 0 = .ok (.aload_n 0, 1) := by decide +kernel
theorem dX3_parted_1 : decode cX3_parted 1 = .ok (.aload_n 0, 1) := by decide +kernel
theorem dX3_parted_2 : decode cX3_parted 2 = .ok (.getfield 9, 3) := by decide +kernel
theorem dX3_parted_5 : decode cX3_parted 5 = .ok (.sipush 200, 3) := by decide +kernel
theorem dX3_parted_8 : decode cX3_parted 8 = .ok (.iload_n 1, 1) := by decide +kernel
theorem dX3_parted_9 : decode cX3_parted 9 = .ok (.iadd, 1) := by decide +kernel
theorem dX3_parted_10 : decode cX3_parted 10 = .ok (.iaload, 1) := by decide +kernel
theorem dX3_parted_11 : decode cX3_parted 11 = .ok (.iload_n 2, 1) := by decide +kernel
theorem dX3_parted_12 : decode cX3_parted 12 = .ok (.invokevirtual 68, 3) := by decide +kernel
theorem dX3_parted_15 : decode cX3_parted 15 = .ok (.istore 4, 2) := by decide +kernel
theorem dX3_parted_17 : decode cX3_parted 17 = .ok (.iload 4, 2) := by decide +kernel
theorem dX3_parted_19 : decode cX3_parted 19 = .ok (.ifCond .ne 49, 3) := by decide +kernel
theorem dX3_parted_22 : decode cX3_parted 22 = .ok (.aload_n 0, 1) := by decide +kernel
theorem dX3_parted_23 : decode cX3_parted 23 = .ok (.getfield 9, 3) := by decide +kernel
theorem dX3_parted_26 : decode cX3_parted 26 = .ok (.sipush 200, 3) := by decide +kernel
theorem dX3_parted_29 : decode cX3_parted 29 = .ok (.iload_n 3, 1) := by decide +kernel
theorem dX3_parted_30 : decode cX3_parted 30 = .ok (.iadd, 1) := by decide +kernel
theorem dX3_parted_31 : decode cX3_parted 31 = .ok (.aload_n 0, 1) := by decide +kernel
theorem dX3_parted_32 : decode cX3_parted 32 = .ok (.getfield 9, 3) := by decide +kernel
theorem dX3_parted_35 : decode cX3_parted 35 = .ok (.sipush 200, 3) := by decide +kernel
theorem dX3_parted_38 : decode cX3_parted 38 = .ok (.iload_n 1, 1) := by decide +kernel
theorem dX3_parted_39 : decode cX3_parted 39 = .ok (.iadd, 1) := by decide +kernel
theorem dX3_parted_40 : decode cX3_parted 40 = .ok (.iaload, 1) := by decide +kernel
theorem dX3_parted_41 : decode cX3_parted 41 = .ok (.iastore, 1) := by decide +kernel
theorem dX3_parted_42 : decode cX3_parted 42 = .ok (.aload_n 0, 1) := by decide +kernel
theorem dX3_parted_43 : decode cX3_parted 43 = .ok (.getfield 9, 3) := by decide +kernel
theorem dX3_parted_46 : decode cX3_parted 46 = .ok (.sipush 200, 3) := by decide +kernel
theorem dX3_parted_49 : decode cX3_parted 49 = .ok (.iload_n 1, 1) := by decide +kernel
theorem dX3_parted_50 : decode cX3_parted 50 = .ok (.iadd, 1) := by decide +kernel
theorem dX3_parted_51 : decode cX3_parted 51 = .ok (.iconst (-1), 1) := by decide +kernel
theorem dX3_parted_52 : decode cX3_parted 52 = .ok (.iastore, 1) := by decide +kernel
theorem dX3_parted_53 : decode cX3_parted 53 = .ok (.aload_n 0, 1) := by decide +kernel
theorem dX3_parted_54 : decode cX3_parted 54 = .ok (.aload_n 0, 1) := by decide +kernel
theorem dX3_parted_55 : decode cX3_parted 55 = .ok (.getfield 9, 3) := by decide +kernel
theorem dX3_parted_58 : decode cX3_parted 58 = .ok (.sipush 200, 3) := by decide +kernel
theorem dX3_parted_61 : decode cX3_parted 61 = .ok (.iload_n 3, 1) := by decide +kernel
theorem dX3_parted_62 : decode cX3_parted 62 = .ok (.iadd, 1) := by decide +kernel
theorem dX3_parted_63 : decode cX3_parted 63 = .ok (.iaload, 1) := by decide +kernel
theorem dX3_parted_64 : decode cX3_parted 64 = .ok (.invokevirtual 50, 3) := by decide +kernel
theorem dX3_parted_67 : decode cX3_parted 67 = .ok (.ireturn, 1) := by decide +kernel
theorem dX3_parted_68 : decode cX3_parted 68 = .ok (.aload_n 0, 1) := by decide +kernel
theorem dX3_parted_69 : decode cX3_parted 69 = .ok (.aload_n 0, 1) := by decide +kernel
theorem dX3_parted_70 : decode cX3_parted 70 = .ok (.getfield 9, 3) := by decide +kernel
theorem dX3_parted_73 : decode cX3_parted 73 = .ok (.sipush 200, 3) := by decide +kernel
theorem dX3_parted_76 : decode cX3_parted 76 = .ok (.iload_n 1, 1) := by decide +kernel
theorem dX3_parted_77 : decode cX3_parted 77 = .ok (.iadd, 1) := by decide +kernel
theorem dX3_parted_78 : decode cX3_parted 78 = .ok (.iaload, 1) := by decide +kernel
theorem dX3_parted_79 : decode cX3_parted 79 = .ok (.iload 4, 2) := by decide +kernel
theorem dX3_parted_81 : decode cX3_parted 81 = .ok (.iconst 1, 1) := by decide +kernel
theorem dX3_parted_82 : decode cX3_parted 82 = .ok (.isub, 1) := by decide +kernel
theorem dX3_parted_83 : decode cX3_parted 83 = .ok (.invokevirtual 71, 3) := by decide +kernel
theorem dX3_parted_86 : decode cX3_parted 86 = .ok (.istore 5, 2) := by decide +kernel
theorem dX3_parted_88 : decode cX3_parted 88 = .ok (.aload_n 0, 1) := by decide +kernel
theorem dX3_parted_89 : decode cX3_parted 89 = .ok (.iload_n 1, 1) := by decide +kernel
theorem dX3_parted_90 : decode cX3_parted 90 = .ok (.iload 5, 2) := by decide +kernel
theorem dX3_parted_92 : decode cX3_parted 92 = .ok (.invokevirtual 84, 3) := by decide +kernel
theorem dX3_parted_95 : decode cX3_parted 95 = .ok (.aload_n 0, 1) := by decide +kernel
theorem dX3_parted_96 : decode cX3_parted 96 = .ok (.getfield 9, 3) := by decide +kernel
theorem dX3_parted_99 : decode cX3_parted 99 = .ok (.sipush 200, 3) := by decide +kernel
theorem dX3_parted_102 : decode cX3_parted 102 = .ok (.iload_n 3, 1) := by decide +kernel
theorem dX3_parted_103 : decode cX3_parted 103 = .ok (.iadd, 1) := by decide +kernel
theorem dX3_parted_104 : decode cX3_parted 104 = .ok (.aload_n 0, 1) := by decide +kernel
theorem dX3_parted_105 : decode cX3_parted 105 = .ok (.aload_n 0, 1) := by decide +kernel
theorem dX3_parted_106 : decode cX3_parted 106 = .ok (.getfield 9, 3) := by decide +kernel
theorem dX3_parted_109 : decode cX3_parted 109 = .ok (.bipush 80, 2) := by decide +kernel
theorem dX3_parted_111 : decode cX3_parted 111 = .ok (.iload 5, 2) := by decide +kernel
theorem dX3_parted_113 : decode cX3_parted 113 = .ok (.iadd, 1) := by decide +kernel
theorem dX3_parted_114 : decode cX3_parted 114 = .ok (.iaload, 1) := by decide +kernel
theorem dX3_parted_115 : decode cX3_parted 115 = .ok (.invokevirtual 110, 3) := by decide +kernel
theorem dX3_parted_118 : decode cX3_parted 118 = .ok (.iastore, 1) := by decide +kernel
theorem dX3_parted_119 : decode cX3_parted 119 = .ok (.aload_n 0, 1) := by decide +kernel
theorem dX3_parted_120 : decode cX3_parted 120 = .ok (.getfield 9, 3) := by decide +kernel
theorem dX3_parted_123 : decode cX3_parted 123 = .ok (.bipush 80, 2) := by decide +kernel
theorem dX3_parted_125 : decode cX3_parted 125 = .ok (.iload 5, 2) := by decide +kernel
theorem dX3_parted_127 : decode cX3_parted 127 = .ok (.iadd, 1) := by decide +kernel
theorem dX3_parted_128 : decode cX3_parted 128 = .ok (.iconst (-1), 1) := by decide +kernel
theorem dX3_parted_129 : decode cX3_parted 129 = .ok (.iastore, 1) := by decide +kernel
theorem dX3_parted_130 : decode cX3_parted 130 = .ok (.aload_n 0, 1) := by decide +kernel
theorem dX3_parted_131 : decode cX3_parted 131 = .ok (.aload_n 0, 1) := by decide +kernel
theorem dX3_parted_132 : decode cX3_parted 132 = .ok (.getfield 9, 3) := by decide +kernel
theorem dX3_parted_135 : decode cX3_parted 135 = .ok (.sipush 200, 3) := by decide +kernel
theorem dX3_parted_138 : decode cX3_parted 138 = .ok (.iload_n 3, 1) := by decide +kernel
theorem dX3_parted_139 : decode cX3_parted 139 = .ok (.iadd, 1) := by decide +kernel
theorem dX3_parted_140 : decode cX3_parted 140 = .ok (.iaload, 1) := by decide +kernel
theorem dX3_parted_141 : decode cX3_parted 141 = .ok (.invokevirtual 50, 3) := by decide +kernel
theorem dX3_parted_144 : decode cX3_parted 144 = .ok (.ireturn, 1) := by decide +kernel
set_option maxRecDepth 20000 in
theorem ggX3_split_X3_isRow : GoodIn wsX3_split wsX3_isRow := goodIn_r _ [6] (by decide +kernel) (by decide +kernel)
set_option maxRecDepth 20000 in
theorem gX3_split_X3_isRow : GoodIn wsX3_split (va_wsS RX3 88 yX3_isRow wsX3_isRow) := goodIn_app (goodIn_of _ (by decide +kernel)) ggX3_split_X3_isRow
set_option maxRecDepth 20000 in
theorem ggX3_split_X3_no : GoodIn wsX3_split wsX3_no := goodIn_r _ [10, 1, 58, 59, 60, 61, 62, 63] (by decide +kernel) (by decide +kernel)
set_option maxRecDepth 20000 in
theorem gX3_split_X3_no : GoodIn wsX3_split (wsV RX3 92 RX3 yX3_no wsX3_no) := goodIn_app (goodIn_of _ (by decide +kernel)) ggX3_split_X3_no
set_option maxRecDepth 20000 in
theorem ggX3_split_X3_isSize : GoodIn wsX3_split wsX3_isSize := goodIn_r _ [13] (by decide +kernel) (by decide +kernel)
set_option maxRecDepth 20000 in
theorem gX3_split_X3_isSize : GoodIn wsX3_split (va_wsS RX3 95 yX3_isSize wsX3_isSize) := goodIn_app (goodIn_of _ (by decide +kernel)) ggX3_split_X3_isSize
set_option maxRecDepth 20000 in
theorem ggX3_split_X3_parted : GoodIn wsX3_split wsX3_parted := goodIn_r _ [17, 2, 18, 19, 20, 5, 21, 22, 23, 24, 25, 26, 27, 28, 29, 30, 31, 32, 33, 34, 35, 36, 37, 38, 39, 40, 41, 42, 43, 44, 45, 46, 47, 48, 49, 50, 51, 52, 53, 54, 55, 56, 57, 58, 59, 60, 61, 62, 63] (by decide +kernel) (by decide +kernel)
set_option maxRecDepth 20000 in
theorem gX3_split_X3_parted : GoodIn wsX3_split (wsV RX3 119 RX3 yX3_parted wsX3_parted) := goodIn_app (goodIn_of _ (by decide +kernel)) ggX3_split_X3_parted
theorem dX3_split_0 : decode cX3_split 0 = .ok (.aload_n 0, 1) := by decide +kernel
theorem dX3_split_1 : decode cX3_split 1 = .ok (.iconst 0, 1) := by decide +kernel
theorem dX3_split_2 : decode cX3_split 2 = .ok (.putfield 16, 3) := by decide +kernel
theorem dX3_split_5 : decode cX3_split 5 = .ok (.iload_n 1, 1) := by decide +kernel
theorem dX3_split_6 : decode cX3_split 6 = .ok (.invokestatic 88, 3) := by decide +kernel
theorem dX3_split_9 : decode cX3_split 9 = .ok (.ifCond .eq 10, 3) := by decide +kernel
theorem dX3_split_12 : decode cX3_split 12 = .ok (.iload_n 3, 1) := by decide +kernel
theorem dX3_split_13 : decode cX3_split 13 = .ok (.invokestatic 88, 3) := by decide +kernel
theorem dX3_split_16 : decode cX3_split 16 = .ok (.ifCond .ne 9, 3) := by decide +kernel
theorem dX3_split_19 : decode cX3_split 19 = .ok (.aload_n 0, 1) := by decide +kernel
theorem dX3_split_20 : decode cX3_split 20 = .ok (.iconst 1, 1) := by decide +kernel
theorem dX3_split_21 : decode cX3_split 21 = .ok (.invokevirtual 92, 3) := by decide +kernel
theorem dX3_split_24 : decode cX3_split 24 = .ok (.ireturn, 1) := by decide +kernel
theorem dX3_split_25 : decode cX3_split 25 = .ok (.iload_n 2, 1) := by decide +kernel
theorem dX3_split_26 : decode cX3_split 26 = .ok (.invokestatic 95, 3) := by decide +kernel
theorem dX3_split_29 : decode cX3_split 29 = .ok (.ifCond .ne 9, 3) := by decide +kernel
theorem dX3_split_32 : decode cX3_split 32 = .ok (.aload_n 0, 1) := by decide +kernel
theorem dX3_split_33 : decode cX3_split 33 = .ok (.iconst 2, 1) := by decide +kernel
theorem dX3_split_34 : decode cX3_split 34 = .ok (.invokevirtual 92, 3) := by decide +kernel
theorem dX3_split_37 : decode cX3_split 37 = .ok (.ireturn, 1) := by decide +kernel
theorem dX3_split_38 : decode cX3_split 38 = .ok (.aload_n 0, 1) := by decide +kernel
theorem dX3_split_39 : decode cX3_split 39 = .ok (.getfield 9, 3) := by decide +kernel
theorem dX3_split_42 : decode cX3_split 42 = .ok (.sipush 200, 3) := by decide +kernel
theorem dX3_split_45 : decode cX3_split 45 = .ok (.iload_n 3, 1) := by decide +kernel
theorem dX3_split_46 : decode cX3_split 46 = .ok (.iadd, 1) := by decide +kernel
theorem dX3_split_47 : decode cX3_split 47 = .ok (.iaload, 1) := by decide +kernel
theorem dX3_split_48 : decode cX3_split 48 = .ok (.iconst (-1), 1) := by decide +kernel
theorem dX3_split_49 : decode cX3_split 49 = .ok (.if_icmp .ne 8, 3) := by decide +kernel
theorem dX3_split_52 : decode cX3_split 52 = .ok (.iload_n 1, 1) := by decide +kernel
theorem dX3_split_53 : decode cX3_split 53 = .ok (.iload_n 3, 1) := by decide +kernel
theorem dX3_split_54 : decode cX3_split 54 = .ok (.if_icmp .ne 9, 3) := by decide +kernel
theorem dX3_split_57 : decode cX3_split 57 = .ok (.aload_n 0, 1) := by decide +kernel
theorem dX3_split_58 : decode cX3_split 58 = .ok (.iconst 3, 1) := by decide +kernel
theorem dX3_split_59 : decode cX3_split 59 = .ok (.invokevirtual 92, 3) := by decide +kernel
theorem dX3_split_62 : decode cX3_split 62 = .ok (.ireturn, 1) := by decide +kernel
theorem dX3_split_63 : decode cX3_split 63 = .ok (.aload_n 0, 1) := by decide +kernel
theorem dX3_split_64 : decode cX3_split 64 = .ok (.iload_n 1, 1) := by decide +kernel
theorem dX3_split_65 : decode cX3_split 65 = .ok (.iload_n 2, 1) := by decide +kernel
theorem dX3_split_66 : decode cX3_split 66 = .ok (.iload_n 3, 1) := by decide +kernel
theorem dX3_split_67 : decode cX3_split 67 = .ok (.invokevirtual 119, 3) := by decide +kernel
theorem dX3_split_70 : decode cX3_split 70 = .ok (.ireturn, 1) := by decide +kernel
set_option maxRecDepth 20000 in
theorem ggX3_fits_X3_end : GoodIn wsX3_fits wsX3_end := goodIn_r _ [6, 1, 7, 8, 9, 10, 11, 12] (by decide +kernel) (by decide +kernel)
set_option maxRecDepth 20000 in
theorem gX3_fits_X3_end : GoodIn wsX3_fits (wsV RX3 107 RX3 yX3_end wsX3_end) := goodIn_app (goodIn_of _ (by decide +kernel)) ggX3_fits_X3_end
theorem dX3_fits_0 : decode cX3_fits 0 = .ok (.iload_n 1, 1) := by decide +kernel
theorem dX3_fits_1 : decode cX3_fits 1 = .ok (.iload_n 2, 1) := by decide +kernel
theorem dX3_fits_2 : decode cX3_fits 2 = .ok (.if_icmp .ne 5, 3) := by decide +kernel
theorem dX3_fits_5 : decode cX3_fits 5 = .ok (.iconst 0, 1) := by decide +kernel
theorem dX3_fits_6 : decode cX3_fits 6 = .ok (.ireturn, 1) := by decide +kernel
theorem dX3_fits_7 : decode cX3_fits 7 = .ok (.aload_n 0, 1) := by decide +kernel
theorem dX3_fits_8 : decode cX3_fits 8 = .ok (.getfield 9, 3) := by decide +kernel
theorem dX3_fits_11 : decode cX3_fits 11 = .ok (.sipush 200, 3) := by decide +kernel
theorem dX3_fits_14 : decode cX3_fits 14 = .ok (.iload_n 1, 1) := by decide +kernel
theorem dX3_fits_15 : decode cX3_fits 15 = .ok (.iadd, 1) := by decide +kernel
theorem dX3_fits_16 : decode cX3_fits 16 = .ok (.iaload, 1) := by decide +kernel
theorem dX3_fits_17 : decode cX3_fits 17 = .ok (.iconst (-1), 1) := by decide +kernel
theorem dX3_fits_18 : decode cX3_fits 18 = .ok (.if_icmp .eq 66, 3) := by decide +kernel
theorem dX3_fits_21 : decode cX3_fits 21 = .ok (.aload_n 0, 1) := by decide +kernel
theorem dX3_fits_22 : decode cX3_fits 22 = .ok (.getfield 9, 3) := by decide +kernel
theorem dX3_fits_25 : decode cX3_fits 25 = .ok (.sipush 200, 3) := by decide +kernel
theorem dX3_fits_28 : decode cX3_fits 28 = .ok (.iload_n 2, 1) := by decide +kernel
theorem dX3_fits_29 : decode cX3_fits 29 = .ok (.iadd, 1) := by decide +kernel
theorem dX3_fits_30 : decode cX3_fits 30 = .ok (.iaload, 1) := by decide +kernel
theorem dX3_fits_31 : decode cX3_fits 31 = .ok (.iconst (-1), 1) := by decide +kernel
theorem dX3_fits_32 : decode cX3_fits 32 = .ok (.if_icmp .eq 52, 3) := by decide +kernel
theorem dX3_fits_35 : decode cX3_fits 35 = .ok (.aload_n 0, 1) := by decide +kernel
theorem dX3_fits_36 : decode cX3_fits 36 = .ok (.getfield 9, 3) := by decide +kernel
theorem dX3_fits_39 : decode cX3_fits 39 = .ok (.iconst 0, 1) := by decide +kernel
theorem dX3_fits_40 : decode cX3_fits 40 = .ok (.aload_n 0, 1) := by decide +kernel
theorem dX3_fits_41 : decode cX3_fits 41 = .ok (.aload_n 0, 1) := by decide +kernel
theorem dX3_fits_42 : decode cX3_fits 42 = .ok (.getfield 9, 3) := by decide +kernel
theorem dX3_fits_45 : decode cX3_fits 45 = .ok (.sipush 200, 3) := by decide +kernel
theorem dX3_fits_48 : decode cX3_fits 48 = .ok (.iload_n 1, 1) := by decide +kernel
theorem dX3_fits_49 : decode cX3_fits 49 = .ok (.iadd, 1) := by decide +kernel
theorem dX3_fits_50 : decode cX3_fits 50 = .ok (.iaload, 1) := by decide +kernel
theorem dX3_fits_51 : decode cX3_fits 51 = .ok (.bipush 80, 2) := by decide +kernel
theorem dX3_fits_53 : decode cX3_fits 53 = .ok (.invokevirtual 107, 3) := by decide +kernel
theorem dX3_fits_56 : decode cX3_fits 56 = .ok (.iadd, 1) := by decide +kernel
theorem dX3_fits_57 : decode cX3_fits 57 = .ok (.iaload, 1) := by decide +kernel
theorem dX3_fits_58 : decode cX3_fits 58 = .ok (.aload_n 0, 1) := by decide +kernel
theorem dX3_fits_59 : decode cX3_fits 59 = .ok (.getfield 9, 3) := by decide +kernel
theorem dX3_fits_62 : decode cX3_fits 62 = .ok (.iconst 0, 1) := by decide +kernel
theorem dX3_fits_63 : decode cX3_fits 63 = .ok (.aload_n 0, 1) := by decide +kernel
theorem dX3_fits_64 : decode cX3_fits 64 = .ok (.aload_n 0, 1) := by decide +kernel
theorem dX3_fits_65 : decode cX3_fits 65 = .ok (.getfield 9, 3) := by decide +kernel
theorem dX3_fits_68 : decode cX3_fits 68 = .ok (.sipush 200, 3) := by decide +kernel
theorem dX3_fits_71 : decode cX3_fits 71 = .ok (.iload_n 2, 1) := by decide +kernel
theorem dX3_fits_72 : decode cX3_fits 72 = .ok (.iadd, 1) := by decide +kernel
theorem dX3_fits_73 : decode cX3_fits 73 = .ok (.iaload, 1) := by decide +kernel
theorem dX3_fits_74 : decode cX3_fits 74 = .ok (.bipush 40, 2) := by decide +kernel
theorem dX3_fits_76 : decode cX3_fits 76 = .ok (.invokevirtual 107, 3) := by decide +kernel
theorem dX3_fits_79 : decode cX3_fits 79 = .ok (.iadd, 1) := by decide +kernel
theorem dX3_fits_80 : decode cX3_fits 80 = .ok (.iaload, 1) := by decide +kernel
theorem dX3_fits_81 : decode cX3_fits 81 = .ok (.if_icmp .ge 7, 3) := by decide +kernel
theorem dX3_fits_84 : decode cX3_fits 84 = .ok (.iconst 1, 1) := by decide +kernel
theorem dX3_fits_85 : decode cX3_fits 85 = .ok (.goto 4, 3) := by decide +kernel
theorem dX3_fits_88 : decode cX3_fits 88 = .ok (.iconst 0, 1) := by decide +kernel
theorem dX3_fits_89 : decode cX3_fits 89 = .ok (.ireturn, 1) := by decide +kernel
set_option maxRecDepth 20000 in
theorem ggX3_join_X3_isRow : GoodIn wsX3_join wsX3_isRow := goodIn_r _ [6] (by decide +kernel) (by decide +kernel)
set_option maxRecDepth 20000 in
theorem gX3_join_X3_isRow : GoodIn wsX3_join (va_wsS RX3 88 yX3_isRow wsX3_isRow) := goodIn_app (goodIn_of _ (by decide +kernel)) ggX3_join_X3_isRow
set_option maxRecDepth 20000 in
theorem ggX3_join_X3_no : GoodIn wsX3_join wsX3_no := goodIn_r _ [10, 1, 47, 48, 49, 50, 51, 52] (by decide +kernel) (by decide +kernel)
set_option maxRecDepth 20000 in
theorem gX3_join_X3_no : GoodIn wsX3_join (wsV RX3 92 RX3 yX3_no wsX3_no) := goodIn_app (goodIn_of _ (by decide +kernel)) ggX3_join_X3_no
set_option maxRecDepth 20000 in
theorem ggX3_join_X3_fits : GoodIn wsX3_join wsX3_fits := goodIn_r _ [14, 2, 15, 16, 17, 5, 18, 47, 48, 49, 50, 51, 52] (by decide +kernel) (by decide +kernel)
set_option maxRecDepth 20000 in
theorem gX3_join_X3_fits : GoodIn wsX3_join (wsV RX3 123 RX3 yX3_fits wsX3_fits) := goodIn_app (goodIn_of _ (by decide +kernel)) ggX3_join_X3_fits
set_option maxRecDepth 20000 in
theorem ggX3_join_X3_together : GoodIn wsX3_join wsX3_together := goodIn_r _ [22, 15, 16, 17, 5, 18, 2, 23, 24, 25, 26, 27, 28, 29, 30, 31, 32, 33, 34, 35, 36, 37, 38, 39, 40, 41, 42, 47, 48, 49, 50, 51, 52] (by decide +kernel) (by decide +kernel)
set_option maxRecDepth 20000 in
theorem gX3_join_X3_together : GoodIn wsX3_join (wsV RX3 113 RX3 yX3_together wsX3_together) := goodIn_app (goodIn_of _ (by decide +kernel)) ggX3_join_X3_together
set_option maxRecDepth 20000 in
theorem ggX3_join_X3_count : GoodIn wsX3_join wsX3_count := goodIn_r _ [46, 2, 43, 44, 45, 5, 47, 48, 49, 50, 51, 52] (by decide +kernel) (by decide +kernel)
set_option maxRecDepth 20000 in
theorem gX3_join_X3_count : GoodIn wsX3_join (wsV RX3 50 RX3 yX3_count wsX3_count) := goodIn_app (goodIn_of _ (by decide +kernel)) ggX3_join_X3_count
theorem dX3_join_0 : decode cX3_join 0 = .ok (.aload_n 0, 1) := by decide +kernel
theorem dX3_join_1 : decode cX3_join 1 = .ok (.iconst 0, 1) := by decide +kernel
theorem dX3_join_2 : decode cX3_join 2 = .ok (.putfield 16, 3) := by decide +kernel
theorem dX3_join_5 : decode cX3_join 5 = .ok (.iload_n 1, 1) := by decide +kernel
theorem dX3_join_6 : decode cX3_join 6 = .ok (.invokestatic 88, 3) := by decide +kernel
theorem dX3_join_9 : decode cX3_join 9 = .ok (.ifCond .eq 10, 3) := by decide +kernel
theorem dX3_join_12 : decode cX3_join 12 = .ok (.iload_n 2, 1) := by decide +kernel
theorem dX3_join_13 : decode cX3_join 13 = .ok (.invokestatic 88, 3) := by decide +kernel
theorem dX3_join_16 : decode cX3_join 16 = .ok (.ifCond .ne 9, 3) := by decide +kernel
theorem dX3_join_19 : decode cX3_join 19 = .ok (.aload_n 0, 1) := by decide +kernel
theorem dX3_join_20 : decode cX3_join 20 = .ok (.iconst 1, 1) := by decide +kernel
theorem dX3_join_21 : decode cX3_join 21 = .ok (.invokevirtual 92, 3) := by decide +kernel
theorem dX3_join_24 : decode cX3_join 24 = .ok (.ireturn, 1) := by decide +kernel
theorem dX3_join_25 : decode cX3_join 25 = .ok (.aload_n 0, 1) := by decide +kernel
theorem dX3_join_26 : decode cX3_join 26 = .ok (.iload_n 1, 1) := by decide +kernel
theorem dX3_join_27 : decode cX3_join 27 = .ok (.iload_n 2, 1) := by decide +kernel
theorem dX3_join_28 : decode cX3_join 28 = .ok (.invokevirtual 123, 3) := by decide +kernel
theorem dX3_join_31 : decode cX3_join 31 = .ok (.ifCond .ne 9, 3) := by decide +kernel
theorem dX3_join_34 : decode cX3_join 34 = .ok (.aload_n 0, 1) := by decide +kernel
theorem dX3_join_35 : decode cX3_join 35 = .ok (.iconst 2, 1) := by decide +kernel
theorem dX3_join_36 : decode cX3_join 36 = .ok (.invokevirtual 92, 3) := by decide +kernel
theorem dX3_join_39 : decode cX3_join 39 = .ok (.ireturn, 1) := by decide +kernel
theorem dX3_join_40 : decode cX3_join 40 = .ok (.aload_n 0, 1) := by decide +kernel
theorem dX3_join_41 : decode cX3_join 41 = .ok (.getfield 9, 3) := by decide +kernel
theorem dX3_join_44 : decode cX3_join 44 = .ok (.sipush 200, 3) := by decide +kernel
theorem dX3_join_47 : decode cX3_join 47 = .ok (.iload_n 1, 1) := by decide +kernel
theorem dX3_join_48 : decode cX3_join 48 = .ok (.iadd, 1) := by decide +kernel
theorem dX3_join_49 : decode cX3_join 49 = .ok (.aload_n 0, 1) := by decide +kernel
theorem dX3_join_50 : decode cX3_join 50 = .ok (.aload_n 0, 1) := by decide +kernel
theorem dX3_join_51 : decode cX3_join 51 = .ok (.getfield 9, 3) := by decide +kernel
theorem dX3_join_54 : decode cX3_join 54 = .ok (.sipush 200, 3) := by decide +kernel
theorem dX3_join_57 : decode cX3_join 57 = .ok (.iload_n 1, 1) := by decide +kernel
theorem dX3_join_58 : decode cX3_join 58 = .ok (.iadd, 1) := by decide +kernel
theorem dX3_join_59 : decode cX3_join 59 = .ok (.iaload, 1) := by decide +kernel
theorem dX3_join_60 : decode cX3_join 60 = .ok (.aload_n 0, 1) := by decide +kernel
theorem dX3_join_61 : decode cX3_join 61 = .ok (.getfield 9, 3) := by decide +kernel
theorem dX3_join_64 : decode cX3_join 64 = .ok (.sipush 200, 3) := by decide +kernel
theorem dX3_join_67 : decode cX3_join 67 = .ok (.iload_n 2, 1) := by decide +kernel
theorem dX3_join_68 : decode cX3_join 68 = .ok (.iadd, 1) := by decide +kernel
theorem dX3_join_69 : decode cX3_join 69 = .ok (.iaload, 1) := by decide +kernel
theorem dX3_join_70 : decode cX3_join 70 = .ok (.invokevirtual 113, 3) := by decide +kernel
theorem dX3_join_73 : decode cX3_join 73 = .ok (.iastore, 1) := by decide +kernel
theorem dX3_join_74 : decode cX3_join 74 = .ok (.aload_n 0, 1) := by decide +kernel
theorem dX3_join_75 : decode cX3_join 75 = .ok (.getfield 9, 3) := by decide +kernel
theorem dX3_join_78 : decode cX3_join 78 = .ok (.sipush 200, 3) := by decide +kernel
theorem dX3_join_81 : decode cX3_join 81 = .ok (.iload_n 2, 1) := by decide +kernel
theorem dX3_join_82 : decode cX3_join 82 = .ok (.iadd, 1) := by decide +kernel
theorem dX3_join_83 : decode cX3_join 83 = .ok (.iconst (-1), 1) := by decide +kernel
theorem dX3_join_84 : decode cX3_join 84 = .ok (.iastore, 1) := by decide +kernel
theorem dX3_join_85 : decode cX3_join 85 = .ok (.aload_n 0, 1) := by decide +kernel
theorem dX3_join_86 : decode cX3_join 86 = .ok (.aload_n 0, 1) := by decide +kernel
theorem dX3_join_87 : decode cX3_join 87 = .ok (.getfield 9, 3) := by decide +kernel
theorem dX3_join_90 : decode cX3_join 90 = .ok (.sipush 200, 3) := by decide +kernel
theorem dX3_join_93 : decode cX3_join 93 = .ok (.iload_n 1, 1) := by decide +kernel
theorem dX3_join_94 : decode cX3_join 94 = .ok (.iadd, 1) := by decide +kernel
theorem dX3_join_95 : decode cX3_join 95 = .ok (.iaload, 1) := by decide +kernel
theorem dX3_join_96 : decode cX3_join 96 = .ok (.invokevirtual 50, 3) := by decide +kernel
theorem dX3_join_99 : decode cX3_join 99 = .ok (.ireturn, 1) := by decide +kernel
set_option maxRecDepth 20000 in
theorem ggX3_apples_X3_ok : GoodIn wsX3_apples wsX3_ok := goodIn_r _ [6, 7, 8, 9, 10, 11, 12, 13] (by decide +kernel) (by decide +kernel)
set_option maxRecDepth 20000 in
theorem gX3_apples_X3_ok : GoodIn wsX3_apples (wsV RX3 127 RX3 yX3_ok wsX3_ok) := goodIn_app (goodIn_of _ (by decide +kernel)) ggX3_apples_X3_ok
theorem dX3_apples_0 : decode cX3_apples 0 = .ok (.aload_n 0, 1) := by decide +kernel
theorem dX3_apples_1 : decode cX3_apples 1 = .ok (.aload_n 0, 1) := by decide +kernel
theorem dX3_apples_2 : decode cX3_apples 2 = .ok (.getfield 78, 3) := by decide +kernel
theorem dX3_apples_5 : decode cX3_apples 5 = .ok (.invokevirtual 127, 3) := by decide +kernel
theorem dX3_apples_8 : decode cX3_apples 8 = .ok (.ireturn, 1) := by decide +kernel
set_option maxRecDepth 20000 in
theorem ggX3_turnings_X3_ok : GoodIn wsX3_turnings wsX3_ok := goodIn_r _ [6, 7, 8, 9, 10, 11, 12, 13] (by decide +kernel) (by decide +kernel)
set_option maxRecDepth 20000 in
theorem gX3_turnings_X3_ok : GoodIn wsX3_turnings (wsV RX3 127 RX3 yX3_ok wsX3_ok) := goodIn_app (goodIn_of _ (by decide +kernel)) ggX3_turnings_X3_ok
theorem dX3_turnings_0 : decode cX3_turnings 0 = .ok (.aload_n 0, 1) := by decide +kernel
theorem dX3_turnings_1 : decode cX3_turnings 1 = .ok (.aload_n 0, 1) := by decide +kernel
theorem dX3_turnings_2 : decode cX3_turnings 2 = .ok (.getfield 26, 3) := by decide +kernel
theorem dX3_turnings_5 : decode cX3_turnings 5 = .ok (.invokevirtual 127, 3) := by decide +kernel
theorem dX3_turnings_8 : decode cX3_turnings 8 = .ok (.ireturn, 1) := by decide +kernel
set_option maxRecDepth 20000 in
theorem ggX3_sizeOf_X3_isRow : GoodIn wsX3_sizeOf wsX3_isRow := goodIn_r _ [6] (by decide +kernel) (by decide +kernel)
set_option maxRecDepth 20000 in
theorem gX3_sizeOf_X3_isRow : GoodIn wsX3_sizeOf (va_wsS RX3 88 yX3_isRow wsX3_isRow) := goodIn_app (goodIn_of _ (by decide +kernel)) ggX3_sizeOf_X3_isRow
set_option maxRecDepth 20000 in
theorem ggX3_sizeOf_X3_count : GoodIn wsX3_sizeOf wsX3_count := goodIn_r _ [10, 2, 7, 8, 9, 5, 15, 16, 17, 18, 19, 20] (by decide +kernel) (by decide +kernel)
set_option maxRecDepth 20000 in
theorem gX3_sizeOf_X3_count : GoodIn wsX3_sizeOf (wsV RX3 50 RX3 yX3_count wsX3_count) := goodIn_app (goodIn_of _ (by decide +kernel)) ggX3_sizeOf_X3_count
set_option maxRecDepth 20000 in
theorem ggX3_sizeOf_X3_no : GoodIn wsX3_sizeOf wsX3_no := goodIn_r _ [14, 1, 15, 16, 17, 18, 19, 20] (by decide +kernel) (by decide +kernel)
set_option maxRecDepth 20000 in
theorem gX3_sizeOf_X3_no : GoodIn wsX3_sizeOf (wsV RX3 92 RX3 yX3_no wsX3_no) := goodIn_app (goodIn_of _ (by decide +kernel)) ggX3_sizeOf_X3_no
theorem dX3_sizeOf_0 : decode cX3_sizeOf 0 = .ok (.aload_n 0, 1) := by decide +kernel
theorem dX3_sizeOf_1 : decode cX3_sizeOf 1 = .ok (.iconst 0, 1) := by decide +kernel
theorem dX3_sizeOf_2 : decode cX3_sizeOf 2 = .ok (.putfield 16, 3) := by decide +kernel
theorem dX3_sizeOf_5 : decode cX3_sizeOf 5 = .ok (.iload_n 1, 1) := by decide +kernel
theorem dX3_sizeOf_6 : decode cX3_sizeOf 6 = .ok (.invokestatic 88, 3) := by decide +kernel
theorem dX3_sizeOf_9 : decode cX3_sizeOf 9 = .ok (.ifCond .eq 20, 3) := by decide +kernel
theorem dX3_sizeOf_12 : decode cX3_sizeOf 12 = .ok (.aload_n 0, 1) := by decide +kernel
theorem dX3_sizeOf_13 : decode cX3_sizeOf 13 = .ok (.aload_n 0, 1) := by decide +kernel
theorem dX3_sizeOf_14 : decode cX3_sizeOf 14 = .ok (.getfield 9, 3) := by decide +kernel
theorem dX3_sizeOf_17 : decode cX3_sizeOf 17 = .ok (.sipush 200, 3) := by decide +kernel
theorem dX3_sizeOf_20 : decode cX3_sizeOf 20 = .ok (.iload_n 1, 1) := by decide +kernel
theorem dX3_sizeOf_21 : decode cX3_sizeOf 21 = .ok (.iadd, 1) := by decide +kernel
theorem dX3_sizeOf_22 : decode cX3_sizeOf 22 = .ok (.iaload, 1) := by decide +kernel
theorem dX3_sizeOf_23 : decode cX3_sizeOf 23 = .ok (.invokevirtual 50, 3) := by decide +kernel
theorem dX3_sizeOf_26 : decode cX3_sizeOf 26 = .ok (.goto 8, 3) := by decide +kernel
theorem dX3_sizeOf_29 : decode cX3_sizeOf 29 = .ok (.aload_n 0, 1) := by decide +kernel
theorem dX3_sizeOf_30 : decode cX3_sizeOf 30 = .ok (.iconst 1, 1) := by decide +kernel
theorem dX3_sizeOf_31 : decode cX3_sizeOf 31 = .ok (.invokevirtual 92, 3) := by decide +kernel
theorem dX3_sizeOf_34 : decode cX3_sizeOf 34 = .ok (.ireturn, 1) := by decide +kernel
set_option maxRecDepth 20000 in
theorem ggX3_top_X3_isRow : GoodIn wsX3_top wsX3_isRow := goodIn_r _ [6] (by decide +kernel) (by decide +kernel)
set_option maxRecDepth 20000 in
theorem gX3_top_X3_isRow : GoodIn wsX3_top (va_wsS RX3 88 yX3_isRow wsX3_isRow) := goodIn_app (goodIn_of _ (by decide +kernel)) ggX3_top_X3_isRow
set_option maxRecDepth 20000 in
theorem ggX3_top_X3_sizeAt : GoodIn wsX3_top wsX3_sizeAt := goodIn_r _ [10, 2, 15, 16, 17, 18, 19, 20] (by decide +kernel) (by decide +kernel)
set_option maxRecDepth 20000 in
theorem gX3_top_X3_sizeAt : GoodIn wsX3_top (wsV RX3 130 RX3 yX3_sizeAt wsX3_sizeAt) := goodIn_app (goodIn_of _ (by decide +kernel)) ggX3_top_X3_sizeAt
set_option maxRecDepth 20000 in
theorem ggX3_top_X3_no : GoodIn wsX3_top wsX3_no := goodIn_r _ [14, 1, 15, 16, 17, 18, 19, 20] (by decide +kernel) (by decide +kernel)
set_option maxRecDepth 20000 in
theorem gX3_top_X3_no : GoodIn wsX3_top (wsV RX3 92 RX3 yX3_no wsX3_no) := goodIn_app (goodIn_of _ (by decide +kernel)) ggX3_top_X3_no
theorem dX3_top_0 : decode cX3_top 0 = .ok (.aload_n 0, 1) := by decide +kernel
theorem dX3_top_1 : decode cX3_top 1 = .ok (.iconst 0, 1) := by decide +kernel
theorem dX3_top_2 : decode cX3_top 2 = .ok (.putfield 16, 3) := by decide +kernel
theorem dX3_top_5 : decode cX3_top 5 = .ok (.iload_n 1, 1) := by decide +kernel
theorem dX3_top_6 : decode cX3_top 6 = .ok (.invokestatic 88, 3) := by decide +kernel
theorem dX3_top_9 : decode cX3_top 9 = .ok (.ifCond .eq 20, 3) := by decide +kernel
theorem dX3_top_12 : decode cX3_top 12 = .ok (.aload_n 0, 1) := by decide +kernel
theorem dX3_top_13 : decode cX3_top 13 = .ok (.aload_n 0, 1) := by decide +kernel
theorem dX3_top_14 : decode cX3_top 14 = .ok (.getfield 9, 3) := by decide +kernel
theorem dX3_top_17 : decode cX3_top 17 = .ok (.sipush 200, 3) := by decide +kernel
theorem dX3_top_20 : decode cX3_top 20 = .ok (.iload_n 1, 1) := by decide +kernel
theorem dX3_top_21 : decode cX3_top 21 = .ok (.iadd, 1) := by decide +kernel
theorem dX3_top_22 : decode cX3_top 22 = .ok (.iaload, 1) := by decide +kernel
theorem dX3_top_23 : decode cX3_top 23 = .ok (.invokevirtual 130, 3) := by decide +kernel
theorem dX3_top_26 : decode cX3_top 26 = .ok (.goto 8, 3) := by decide +kernel
theorem dX3_top_29 : decode cX3_top 29 = .ok (.aload_n 0, 1) := by decide +kernel
theorem dX3_top_30 : decode cX3_top 30 = .ok (.iconst 1, 1) := by decide +kernel
theorem dX3_top_31 : decode cX3_top 31 = .ok (.invokevirtual 92, 3) := by decide +kernel
theorem dX3_top_34 : decode cX3_top 34 = .ok (.ireturn, 1) := by decide +kernel
set_option maxRecDepth 20000 in
theorem ggX3_height_X3_isRow : GoodIn wsX3_height wsX3_isRow := goodIn_r _ [6] (by decide +kernel) (by decide +kernel)
set_option maxRecDepth 20000 in
theorem gX3_height_X3_isRow : GoodIn wsX3_height (va_wsS RX3 88 yX3_isRow wsX3_isRow) := goodIn_app (goodIn_of _ (by decide +kernel)) ggX3_height_X3_isRow
set_option maxRecDepth 20000 in
theorem ggX3_height_X3_high : GoodIn wsX3_height wsX3_high := goodIn_r _ [10, 2, 11, 12, 13, 14, 7, 8, 9, 5, 19, 20, 21, 22, 23, 24] (by decide +kernel) (by decide +kernel)
set_option maxRecDepth 20000 in
theorem gX3_height_X3_high : GoodIn wsX3_height (wsV RX3 53 RX3 yX3_high wsX3_high) := goodIn_app (goodIn_of _ (by decide +kernel)) ggX3_height_X3_high
set_option maxRecDepth 20000 in
theorem ggX3_height_X3_no : GoodIn wsX3_height wsX3_no := goodIn_r _ [18, 1, 19, 20, 21, 22, 23, 24] (by decide +kernel) (by decide +kernel)
set_option maxRecDepth 20000 in
theorem gX3_height_X3_no : GoodIn wsX3_height (wsV RX3 92 RX3 yX3_no wsX3_no) := goodIn_app (goodIn_of _ (by decide +kernel)) ggX3_height_X3_no
theorem dX3_height_0 : decode cX3_height 0 = .ok (.aload_n 0, 1) := by decide +kernel
theorem dX3_height_1 : decode cX3_height 1 = .ok (.iconst 0, 1) := by decide +kernel
theorem dX3_height_2 : decode cX3_height 2 = .ok (.putfield 16, 3) := by decide +kernel
theorem dX3_height_5 : decode cX3_height 5 = .ok (.iload_n 1, 1) := by decide +kernel
theorem dX3_height_6 : decode cX3_height 6 = .ok (.invokestatic 88, 3) := by decide +kernel
theorem dX3_height_9 : decode cX3_height 9 = .ok (.ifCond .eq 20, 3) := by decide +kernel
theorem dX3_height_12 : decode cX3_height 12 = .ok (.aload_n 0, 1) := by decide +kernel
theorem dX3_height_13 : decode cX3_height 13 = .ok (.aload_n 0, 1) := by decide +kernel
theorem dX3_height_14 : decode cX3_height 14 = .ok (.getfield 9, 3) := by decide +kernel
theorem dX3_height_17 : decode cX3_height 17 = .ok (.sipush 200, 3) := by decide +kernel
theorem dX3_height_20 : decode cX3_height 20 = .ok (.iload_n 1, 1) := by decide +kernel
theorem dX3_height_21 : decode cX3_height 21 = .ok (.iadd, 1) := by decide +kernel
theorem dX3_height_22 : decode cX3_height 22 = .ok (.iaload, 1) := by decide +kernel
theorem dX3_height_23 : decode cX3_height 23 = .ok (.invokevirtual 53, 3) := by decide +kernel
theorem dX3_height_26 : decode cX3_height 26 = .ok (.goto 8, 3) := by decide +kernel
theorem dX3_height_29 : decode cX3_height 29 = .ok (.aload_n 0, 1) := by decide +kernel
theorem dX3_height_30 : decode cX3_height 30 = .ok (.iconst 1, 1) := by decide +kernel
theorem dX3_height_31 : decode cX3_height 31 = .ok (.invokevirtual 92, 3) := by decide +kernel
theorem dX3_height_34 : decode cX3_height 34 = .ok (.ireturn, 1) := by decide +kernel
set_option maxRecDepth 20000 in
theorem ggX3_lowest_X3_count : GoodIn wsX3_lowest wsX3_count := goodIn_r _ [6, 1, 2, 3, 4, 5, 7, 8, 9, 10, 11, 12] (by decide +kernel) (by decide +kernel)
set_option maxRecDepth 20000 in
theorem gX3_lowest_X3_count : GoodIn wsX3_lowest (wsV RX3 50 RX3 yX3_count wsX3_count) := goodIn_app (goodIn_of _ (by decide +kernel)) ggX3_lowest_X3_count
theorem dX3_lowest_0 : decode cX3_lowest 0 = .ok (.aload_n 0, 1) := by decide +kernel
theorem dX3_lowest_1 : decode cX3_lowest 1 = .ok (.aload_n 0, 1) := by decide +kernel
theorem dX3_lowest_2 : decode cX3_lowest 2 = .ok (.getfield 9, 3) := by decide +kernel
theorem dX3_lowest_5 : decode cX3_lowest 5 = .ok (.sipush 200, 3) := by decide +kernel
theorem dX3_lowest_8 : decode cX3_lowest 8 = .ok (.iload_n 1, 1) := by decide +kernel
theorem dX3_lowest_9 : decode cX3_lowest 9 = .ok (.iadd, 1) := by decide +kernel
theorem dX3_lowest_10 : decode cX3_lowest 10 = .ok (.iaload, 1) := by decide +kernel
theorem dX3_lowest_11 : decode cX3_lowest 11 = .ok (.invokevirtual 50, 3) := by decide +kernel
theorem dX3_lowest_14 : decode cX3_lowest 14 = .ok (.istore_n 2, 1) := by decide +kernel
theorem dX3_lowest_15 : decode cX3_lowest 15 = .ok (.iconst 0, 1) := by decide +kernel
theorem dX3_lowest_16 : decode cX3_lowest 16 = .ok (.istore_n 3, 1) := by decide +kernel
theorem dX3_lowest_17 : decode cX3_lowest 17 = .ok (.iload_n 2, 1) := by decide +kernel
theorem dX3_lowest_18 : decode cX3_lowest 18 = .ok (.ifCond .le 13, 3) := by decide +kernel
theorem dX3_lowest_21 : decode cX3_lowest 21 = .ok (.iload_n 2, 1) := by decide +kernel
theorem dX3_lowest_22 : decode cX3_lowest 22 = .ok (.iconst 2, 1) := by decide +kernel
theorem dX3_lowest_23 : decode cX3_lowest 23 = .ok (.idiv, 1) := by decide +kernel
theorem dX3_lowest_24 : decode cX3_lowest 24 = .ok (.istore_n 2, 1) := by decide +kernel
theorem dX3_lowest_25 : decode cX3_lowest 25 = .ok (.iinc 3 1, 3) := by decide +kernel
theorem dX3_lowest_28 : decode cX3_lowest 28 = .ok (.goto (-11), 3) := by decide +kernel
theorem dX3_lowest_31 : decode cX3_lowest 31 = .ok (.iload_n 3, 1) := by decide +kernel
theorem dX3_lowest_32 : decode cX3_lowest 32 = .ok (.ireturn, 1) := by decide +kernel
set_option maxRecDepth 20000 in
theorem ggX3_leastHeight_X3_isRow : GoodIn wsX3_leastHeight wsX3_isRow := goodIn_r _ [5] (by decide +kernel) (by decide +kernel)
set_option maxRecDepth 20000 in
theorem gX3_leastHeight_X3_isRow : GoodIn wsX3_leastHeight (va_wsS RX3 88 yX3_isRow wsX3_isRow) := goodIn_app (goodIn_of _ (by decide +kernel)) ggX3_leastHeight_X3_isRow
set_option maxRecDepth 20000 in
theorem ggX3_leastHeight_X3_lowest : GoodIn wsX3_leastHeight wsX3_lowest := goodIn_r _ [9, 10, 11, 12, 13, 4, 14, 19, 20, 21, 22, 23, 24] (by decide +kernel) (by decide +kernel)
set_option maxRecDepth 20000 in
theorem gX3_leastHeight_X3_lowest : GoodIn wsX3_leastHeight (wsV RX3 133 RX3 yX3_lowest wsX3_lowest) := goodIn_app (goodIn_of _ (by decide +kernel)) ggX3_leastHeight_X3_lowest
set_option maxRecDepth 20000 in
theorem ggX3_leastHeight_X3_no : GoodIn wsX3_leastHeight wsX3_no := goodIn_r _ [18, 1, 19, 20, 21, 22, 23, 24] (by decide +kernel) (by decide +kernel)
set_option maxRecDepth 20000 in
theorem gX3_leastHeight_X3_no : GoodIn wsX3_leastHeight (wsV RX3 92 RX3 yX3_no wsX3_no) := goodIn_app (goodIn_of _ (by decide +kernel)) ggX3_leastHeight_X3_no
theorem dX3_leastHeight_0 : decode cX3_leastHeight 0 = .ok (.aload_n 0, 1) := by decide +kernel
theorem dX3_leastHeight_1 : decode cX3_leastHeight 1 = .ok (.iconst 0, 1) := by decide +kernel
theorem dX3_leastHeight_2 : decode cX3_leastHeight 2 = .ok (.putfield 16, 3) := by decide +kernel
theorem dX3_leastHeight_5 : decode cX3_leastHeight 5 = .ok (.iload_n 1, 1) := by decide +kernel
theorem dX3_leastHeight_6 : decode cX3_leastHeight 6 = .ok (.invokestatic 88, 3) := by decide +kernel
theorem dX3_leastHeight_9 : decode cX3_leastHeight 9 = .ok (.ifCond .eq 11, 3) := by decide +kernel
theorem dX3_leastHeight_12 : decode cX3_leastHeight 12 = .ok (.aload_n 0, 1) := by decide +kernel
theorem dX3_leastHeight_13 : decode cX3_leastHeight 13 = .ok (.iload_n 1, 1) := by decide +kernel
theorem dX3_leastHeight_14 : decode cX3_leastHeight 14 = .ok (.invokevirtual 133, 3) := by decide +kernel
theorem dX3_leastHeight_17 : decode cX3_leastHeight 17 = .ok (.goto 8, 3) := by decide +kernel
theorem dX3_leastHeight_20 : decode cX3_leastHeight 20 = .ok (.aload_n 0, 1) := by decide +kernel
theorem dX3_leastHeight_21 : decode cX3_leastHeight 21 = .ok (.iconst 1, 1) := by decide +kernel
theorem dX3_leastHeight_22 : decode cX3_leastHeight 22 = .ok (.invokevirtual 92, 3) := by decide +kernel
theorem dX3_leastHeight_25 : decode cX3_leastHeight 25 = .ok (.ireturn, 1) := by decide +kernel
set_option maxRecDepth 20000 in
theorem ggX3_depths_X3_isRow : GoodIn wsX3_depths wsX3_isRow := goodIn_r _ [6] (by decide +kernel) (by decide +kernel)
set_option maxRecDepth 20000 in
theorem gX3_depths_X3_isRow : GoodIn wsX3_depths (va_wsS RX3 88 yX3_isRow wsX3_isRow) := goodIn_app (goodIn_of _ (by decide +kernel)) ggX3_depths_X3_isRow
set_option maxRecDepth 20000 in
theorem ggX3_depths_X3_depthsOf : GoodIn wsX3_depths wsX3_depthsOf := goodIn_r _ [10, 2, 7, 8, 9, 5, 15, 16, 17, 18, 19, 20] (by decide +kernel) (by decide +kernel)
set_option maxRecDepth 20000 in
theorem gX3_depths_X3_depthsOf : GoodIn wsX3_depths (wsV RX3 62 RX3 yX3_depthsOf wsX3_depthsOf) := goodIn_app (goodIn_of _ (by decide +kernel)) ggX3_depths_X3_depthsOf
set_option maxRecDepth 20000 in
theorem ggX3_depths_X3_no : GoodIn wsX3_depths wsX3_no := goodIn_r _ [14, 1, 15, 16, 17, 18, 19, 20] (by decide +kernel) (by decide +kernel)
set_option maxRecDepth 20000 in
theorem gX3_depths_X3_no : GoodIn wsX3_depths (wsV RX3 92 RX3 yX3_no wsX3_no) := goodIn_app (goodIn_of _ (by decide +kernel)) ggX3_depths_X3_no
theorem dX3_depths_0 : decode cX3_depths 0 = .ok (.aload_n 0, 1) := by decide +kernel
theorem dX3_depths_1 : decode cX3_depths 1 = .ok (.iconst 0, 1) := by decide +kernel
theorem dX3_depths_2 : decode cX3_depths 2 = .ok (.putfield 16, 3) := by decide +kernel
theorem dX3_depths_5 : decode cX3_depths 5 = .ok (.iload_n 1, 1) := by decide +kernel
theorem dX3_depths_6 : decode cX3_depths 6 = .ok (.invokestatic 88, 3) := by decide +kernel
theorem dX3_depths_9 : decode cX3_depths 9 = .ok (.ifCond .eq 21, 3) := by decide +kernel
theorem dX3_depths_12 : decode cX3_depths 12 = .ok (.aload_n 0, 1) := by decide +kernel
theorem dX3_depths_13 : decode cX3_depths 13 = .ok (.aload_n 0, 1) := by decide +kernel
theorem dX3_depths_14 : decode cX3_depths 14 = .ok (.getfield 9, 3) := by decide +kernel
theorem dX3_depths_17 : decode cX3_depths 17 = .ok (.sipush 200, 3) := by decide +kernel
theorem dX3_depths_20 : decode cX3_depths 20 = .ok (.iload_n 1, 1) := by decide +kernel
theorem dX3_depths_21 : decode cX3_depths 21 = .ok (.iadd, 1) := by decide +kernel
theorem dX3_depths_22 : decode cX3_depths 22 = .ok (.iaload, 1) := by decide +kernel
theorem dX3_depths_23 : decode cX3_depths 23 = .ok (.iconst 0, 1) := by decide +kernel
theorem dX3_depths_24 : decode cX3_depths 24 = .ok (.invokevirtual 62, 3) := by decide +kernel
theorem dX3_depths_27 : decode cX3_depths 27 = .ok (.goto 8, 3) := by decide +kernel
theorem dX3_depths_30 : decode cX3_depths 30 = .ok (.aload_n 0, 1) := by decide +kernel
theorem dX3_depths_31 : decode cX3_depths 31 = .ok (.iconst 1, 1) := by decide +kernel
theorem dX3_depths_32 : decode cX3_depths 32 = .ok (.invokevirtual 92, 3) := by decide +kernel
theorem dX3_depths_35 : decode cX3_depths 35 = .ok (.ireturn, 1) := by decide +kernel
set_option maxRecDepth 20000 in
theorem ggX3_smallest_X3_isRow : GoodIn wsX3_smallest wsX3_isRow := goodIn_r _ [6] (by decide +kernel) (by decide +kernel)
set_option maxRecDepth 20000 in
theorem gX3_smallest_X3_isRow : GoodIn wsX3_smallest (va_wsS RX3 88 yX3_isRow wsX3_isRow) := goodIn_app (goodIn_of _ (by decide +kernel)) ggX3_smallest_X3_isRow
set_option maxRecDepth 20000 in
theorem ggX3_smallest_X3_end : GoodIn wsX3_smallest wsX3_end := goodIn_r _ [10, 2, 19, 20, 21, 22, 23, 24] (by decide +kernel) (by decide +kernel)
set_option maxRecDepth 20000 in
theorem gX3_smallest_X3_end : GoodIn wsX3_smallest (wsV RX3 107 RX3 yX3_end wsX3_end) := goodIn_app (goodIn_of _ (by decide +kernel)) ggX3_smallest_X3_end
set_option maxRecDepth 20000 in
theorem ggX3_smallest_X3_sizeAt : GoodIn wsX3_smallest wsX3_sizeAt := goodIn_r _ [14, 2, 19, 20, 21, 22, 23, 24] (by decide +kernel) (by decide +kernel)
set_option maxRecDepth 20000 in
theorem gX3_smallest_X3_sizeAt : GoodIn wsX3_smallest (wsV RX3 130 RX3 yX3_sizeAt wsX3_sizeAt) := goodIn_app (goodIn_of _ (by decide +kernel)) ggX3_smallest_X3_sizeAt
set_option maxRecDepth 20000 in
theorem ggX3_smallest_X3_no : GoodIn wsX3_smallest wsX3_no := goodIn_r _ [18, 1, 19, 20, 21, 22, 23, 24] (by decide +kernel) (by decide +kernel)
set_option maxRecDepth 20000 in
theorem gX3_smallest_X3_no : GoodIn wsX3_smallest (wsV RX3 92 RX3 yX3_no wsX3_no) := goodIn_app (goodIn_of _ (by decide +kernel)) ggX3_smallest_X3_no
theorem dX3_smallest_0 : decode cX3_smallest 0 = .ok (.aload_n 0, 1) := by decide +kernel
theorem dX3_smallest_1 : decode cX3_smallest 1 = .ok (.iconst 0, 1) := by decide +kernel
theorem dX3_smallest_2 : decode cX3_smallest 2 = .ok (.putfield 16, 3) := by decide +kernel
theorem dX3_smallest_5 : decode cX3_smallest 5 = .ok (.iload_n 1, 1) := by decide +kernel
theorem dX3_smallest_6 : decode cX3_smallest 6 = .ok (.invokestatic 88, 3) := by decide +kernel
theorem dX3_smallest_9 : decode cX3_smallest 9 = .ok (.ifCond .eq 26, 3) := by decide +kernel
theorem dX3_smallest_12 : decode cX3_smallest 12 = .ok (.aload_n 0, 1) := by decide +kernel
theorem dX3_smallest_13 : decode cX3_smallest 13 = .ok (.aload_n 0, 1) := by decide +kernel
theorem dX3_smallest_14 : decode cX3_smallest 14 = .ok (.aload_n 0, 1) := by decide +kernel
theorem dX3_smallest_15 : decode cX3_smallest 15 = .ok (.getfield 9, 3) := by decide +kernel
theorem dX3_smallest_18 : decode cX3_smallest 18 = .ok (.sipush 200, 3) := by decide +kernel
theorem dX3_smallest_21 : decode cX3_smallest 21 = .ok (.iload_n 1, 1) := by decide +kernel
theorem dX3_smallest_22 : decode cX3_smallest 22 = .ok (.iadd, 1) := by decide +kernel
theorem dX3_smallest_23 : decode cX3_smallest 23 = .ok (.iaload, 1) := by decide +kernel
theorem dX3_smallest_24 : decode cX3_smallest 24 = .ok (.bipush 40, 2) := by decide +kernel
theorem dX3_smallest_26 : decode cX3_smallest 26 = .ok (.invokevirtual 107, 3) := by decide +kernel
theorem dX3_smallest_29 : decode cX3_smallest 29 = .ok (.invokevirtual 130, 3) := by decide +kernel
theorem dX3_smallest_32 : decode cX3_smallest 32 = .ok (.goto 8, 3) := by decide +kernel
theorem dX3_smallest_35 : decode cX3_smallest 35 = .ok (.aload_n 0, 1) := by decide +kernel
theorem dX3_smallest_36 : decode cX3_smallest 36 = .ok (.iconst 1, 1) := by decide +kernel
theorem dX3_smallest_37 : decode cX3_smallest 37 = .ok (.invokevirtual 92, 3) := by decide +kernel
theorem dX3_smallest_40 : decode cX3_smallest 40 = .ok (.ireturn, 1) := by decide +kernel
set_option maxRecDepth 20000 in
theorem ggX3_greatest_X3_isRow : GoodIn wsX3_greatest wsX3_isRow := goodIn_r _ [6] (by decide +kernel) (by decide +kernel)
set_option maxRecDepth 20000 in
theorem gX3_greatest_X3_isRow : GoodIn wsX3_greatest (va_wsS RX3 88 yX3_isRow wsX3_isRow) := goodIn_app (goodIn_of _ (by decide +kernel)) ggX3_greatest_X3_isRow
set_option maxRecDepth 20000 in
theorem ggX3_greatest_X3_end : GoodIn wsX3_greatest wsX3_end := goodIn_r _ [10, 2, 19, 20, 21, 22, 23, 24] (by decide +kernel) (by decide +kernel)
set_option maxRecDepth 20000 in
theorem gX3_greatest_X3_end : GoodIn wsX3_greatest (wsV RX3 107 RX3 yX3_end wsX3_end) := goodIn_app (goodIn_of _ (by decide +kernel)) ggX3_greatest_X3_end
set_option maxRecDepth 20000 in
theorem ggX3_greatest_X3_sizeAt : GoodIn wsX3_greatest wsX3_sizeAt := goodIn_r _ [14, 2, 19, 20, 21, 22, 23, 24] (by decide +kernel) (by decide +kernel)
set_option maxRecDepth 20000 in
theorem gX3_greatest_X3_sizeAt : GoodIn wsX3_greatest (wsV RX3 130 RX3 yX3_sizeAt wsX3_sizeAt) := goodIn_app (goodIn_of _ (by decide +kernel)) ggX3_greatest_X3_sizeAt
set_option maxRecDepth 20000 in
theorem ggX3_greatest_X3_no : GoodIn wsX3_greatest wsX3_no := goodIn_r _ [18, 1, 19, 20, 21, 22, 23, 24] (by decide +kernel) (by decide +kernel)
set_option maxRecDepth 20000 in
theorem gX3_greatest_X3_no : GoodIn wsX3_greatest (wsV RX3 92 RX3 yX3_no wsX3_no) := goodIn_app (goodIn_of _ (by decide +kernel)) ggX3_greatest_X3_no
theorem dX3_greatest_0 : decode cX3_greatest 0 = .ok (.aload_n 0, 1) := by decide +kernel
theorem dX3_greatest_1 : decode cX3_greatest 1 = .ok (.iconst 0, 1) := by decide +kernel
theorem dX3_greatest_2 : decode cX3_greatest 2 = .ok (.putfield 16, 3) := by decide +kernel
theorem dX3_greatest_5 : decode cX3_greatest 5 = .ok (.iload_n 1, 1) := by decide +kernel
theorem dX3_greatest_6 : decode cX3_greatest 6 = .ok (.invokestatic 88, 3) := by decide +kernel
theorem dX3_greatest_9 : decode cX3_greatest 9 = .ok (.ifCond .eq 26, 3) := by decide +kernel
theorem dX3_greatest_12 : decode cX3_greatest 12 = .ok (.aload_n 0, 1) := by decide +kernel
theorem dX3_greatest_13 : decode cX3_greatest 13 = .ok (.aload_n 0, 1) := by decide +kernel
theorem dX3_greatest_14 : decode cX3_greatest 14 = .ok (.aload_n 0, 1) := by decide +kernel
theorem dX3_greatest_15 : decode cX3_greatest 15 = .ok (.getfield 9, 3) := by decide +kernel
theorem dX3_greatest_18 : decode cX3_greatest 18 = .ok (.sipush 200, 3) := by decide +kernel
theorem dX3_greatest_21 : decode cX3_greatest 21 = .ok (.iload_n 1, 1) := by decide +kernel
theorem dX3_greatest_22 : decode cX3_greatest 22 = .ok (.iadd, 1) := by decide +kernel
theorem dX3_greatest_23 : decode cX3_greatest 23 = .ok (.iaload, 1) := by decide +kernel
theorem dX3_greatest_24 : decode cX3_greatest 24 = .ok (.bipush 80, 2) := by decide +kernel
theorem dX3_greatest_26 : decode cX3_greatest 26 = .ok (.invokevirtual 107, 3) := by decide +kernel
theorem dX3_greatest_29 : decode cX3_greatest 29 = .ok (.invokevirtual 130, 3) := by decide +kernel
theorem dX3_greatest_32 : decode cX3_greatest 32 = .ok (.goto 8, 3) := by decide +kernel
theorem dX3_greatest_35 : decode cX3_greatest 35 = .ok (.aload_n 0, 1) := by decide +kernel
theorem dX3_greatest_36 : decode cX3_greatest 36 = .ok (.iconst 1, 1) := by decide +kernel
theorem dX3_greatest_37 : decode cX3_greatest 37 = .ok (.invokevirtual 92, 3) := by decide +kernel
theorem dX3_greatest_40 : decode cX3_greatest 40 = .ok (.ireturn, 1) := by decide +kernel
set_option maxRecDepth 20000 in
theorem ggX3_inOrder_X3_isRow : GoodIn wsX3_inOrder wsX3_isRow := goodIn_r _ [6] (by decide +kernel) (by decide +kernel)
set_option maxRecDepth 20000 in
theorem gX3_inOrder_X3_isRow : GoodIn wsX3_inOrder (va_wsS RX3 88 yX3_isRow wsX3_isRow) := goodIn_app (goodIn_of _ (by decide +kernel)) ggX3_inOrder_X3_isRow
set_option maxRecDepth 20000 in
theorem ggX3_inOrder_X3_count : GoodIn wsX3_inOrder wsX3_count := goodIn_r _ [10, 2, 7, 8, 9, 5, 19, 20, 21, 22, 23, 24] (by decide +kernel) (by decide +kernel)
set_option maxRecDepth 20000 in
theorem gX3_inOrder_X3_count : GoodIn wsX3_inOrder (wsV RX3 50 RX3 yX3_count wsX3_count) := goodIn_app (goodIn_of _ (by decide +kernel)) ggX3_inOrder_X3_count
set_option maxRecDepth 20000 in
theorem ggX3_inOrder_X3_no : GoodIn wsX3_inOrder wsX3_no := goodIn_r _ [14, 1, 19, 20, 21, 22, 23, 24] (by decide +kernel) (by decide +kernel)
set_option maxRecDepth 20000 in
theorem gX3_inOrder_X3_no : GoodIn wsX3_inOrder (wsV RX3 92 RX3 yX3_no wsX3_no) := goodIn_app (goodIn_of _ (by decide +kernel)) ggX3_inOrder_X3_no
set_option maxRecDepth 20000 in
theorem ggX3_inOrder_X3_nth : GoodIn wsX3_inOrder wsX3_nth := goodIn_r _ [18, 2, 7, 8, 9, 5, 10, 15, 16, 17, 19, 20, 21, 22, 23, 24] (by decide +kernel) (by decide +kernel)
set_option maxRecDepth 20000 in
theorem gX3_inOrder_X3_nth : GoodIn wsX3_inOrder (wsV RX3 71 RX3 yX3_nth wsX3_nth) := goodIn_app (goodIn_of _ (by decide +kernel)) ggX3_inOrder_X3_nth
theorem dX3_inOrder_0 : decode cX3_inOrder 0 = .ok (.aload_n 0, 1) := by decide +kernel
theorem dX3_inOrder_1 : decode cX3_inOrder 1 = .ok (.iconst 0, 1) := by decide +kernel
theorem dX3_inOrder_2 : decode cX3_inOrder 2 = .ok (.putfield 16, 3) := by decide +kernel
theorem dX3_inOrder_5 : decode cX3_inOrder 5 = .ok (.iload_n 1, 1) := by decide +kernel
theorem dX3_inOrder_6 : decode cX3_inOrder 6 = .ok (.invokestatic 88, 3) := by decide +kernel
theorem dX3_inOrder_9 : decode cX3_inOrder 9 = .ok (.ifCond .eq 25, 3) := by decide +kernel
theorem dX3_inOrder_12 : decode cX3_inOrder 12 = .ok (.iload_n 2, 1) := by decide +kernel
theorem dX3_inOrder_13 : decode cX3_inOrder 13 = .ok (.ifCond .lt 21, 3) := by decide +kernel
theorem dX3_inOrder_16 : decode cX3_inOrder 16 = .ok (.iload_n 2, 1) := by decide +kernel
theorem dX3_inOrder_17 : decode cX3_inOrder 17 = .ok (.aload_n 0, 1) := by decide +kernel
theorem dX3_inOrder_18 : decode cX3_inOrder 18 = .ok (.aload_n 0, 1) := by decide +kernel
theorem dX3_inOrder_19 : decode cX3_inOrder 19 = .ok (.getfield 9, 3) := by decide +kernel
theorem dX3_inOrder_22 : decode cX3_inOrder 22 = .ok (.sipush 200, 3) := by decide +kernel
theorem dX3_inOrder_25 : decode cX3_inOrder 25 = .ok (.iload_n 1, 1) := by decide +kernel
theorem dX3_inOrder_26 : decode cX3_inOrder 26 = .ok (.iadd, 1) := by decide +kernel
theorem dX3_inOrder_27 : decode cX3_inOrder 27 = .ok (.iaload, 1) := by decide +kernel
theorem dX3_inOrder_28 : decode cX3_inOrder 28 = .ok (.invokevirtual 50, 3) := by decide +kernel
theorem dX3_inOrder_31 : decode cX3_inOrder 31 = .ok (.if_icmp .lt 9, 3) := by decide +kernel
theorem dX3_inOrder_34 : decode cX3_inOrder 34 = .ok (.aload_n 0, 1) := by decide +kernel
theorem dX3_inOrder_35 : decode cX3_inOrder 35 = .ok (.iconst 1, 1) := by decide +kernel
theorem dX3_inOrder_36 : decode cX3_inOrder 36 = .ok (.invokevirtual 92, 3) := by decide +kernel
theorem dX3_inOrder_39 : decode cX3_inOrder 39 = .ok (.ireturn, 1) := by decide +kernel
theorem dX3_inOrder_40 : decode cX3_inOrder 40 = .ok (.aload_n 0, 1) := by decide +kernel
theorem dX3_inOrder_41 : decode cX3_inOrder 41 = .ok (.getfield 9, 3) := by decide +kernel
theorem dX3_inOrder_44 : decode cX3_inOrder 44 = .ok (.iconst 0, 1) := by decide +kernel
theorem dX3_inOrder_45 : decode cX3_inOrder 45 = .ok (.aload_n 0, 1) := by decide +kernel
theorem dX3_inOrder_46 : decode cX3_inOrder 46 = .ok (.aload_n 0, 1) := by decide +kernel
theorem dX3_inOrder_47 : decode cX3_inOrder 47 = .ok (.getfield 9, 3) := by decide +kernel
theorem dX3_inOrder_50 : decode cX3_inOrder 50 = .ok (.sipush 200, 3) := by decide +kernel
theorem dX3_inOrder_53 : decode cX3_inOrder 53 = .ok (.iload_n 1, 1) := by decide +kernel
theorem dX3_inOrder_54 : decode cX3_inOrder 54 = .ok (.iadd, 1) := by decide +kernel
theorem dX3_inOrder_55 : decode cX3_inOrder 55 = .ok (.iaload, 1) := by decide +kernel
theorem dX3_inOrder_56 : decode cX3_inOrder 56 = .ok (.iload_n 2, 1) := by decide +kernel
theorem dX3_inOrder_57 : decode cX3_inOrder 57 = .ok (.invokevirtual 71, 3) := by decide +kernel
theorem dX3_inOrder_60 : decode cX3_inOrder 60 = .ok (.iadd, 1) := by decide +kernel
theorem dX3_inOrder_61 : decode cX3_inOrder 61 = .ok (.iaload, 1) := by decide +kernel
theorem dX3_inOrder_62 : decode cX3_inOrder 62 = .ok (.ireturn, 1) := by decide +kernel
set_option maxRecDepth 20000 in
theorem ggX3_leaves_X3_isRow : GoodIn wsX3_leaves wsX3_isRow := goodIn_r _ [6] (by decide +kernel) (by decide +kernel)
set_option maxRecDepth 20000 in
theorem gX3_leaves_X3_isRow : GoodIn wsX3_leaves (va_wsS RX3 88 yX3_isRow wsX3_isRow) := goodIn_app (goodIn_of _ (by decide +kernel)) ggX3_leaves_X3_isRow
set_option maxRecDepth 20000 in
theorem ggX3_leaves_X3_ends : GoodIn wsX3_leaves wsX3_ends := goodIn_r _ [10, 2, 7, 8, 9, 5, 15, 16, 17, 18, 19, 20] (by decide +kernel) (by decide +kernel)
set_option maxRecDepth 20000 in
theorem gX3_leaves_X3_ends : GoodIn wsX3_leaves (wsV RX3 65 RX3 yX3_ends wsX3_ends) := goodIn_app (goodIn_of _ (by decide +kernel)) ggX3_leaves_X3_ends
set_option maxRecDepth 20000 in
theorem ggX3_leaves_X3_no : GoodIn wsX3_leaves wsX3_no := goodIn_r _ [14, 1, 15, 16, 17, 18, 19, 20] (by decide +kernel) (by decide +kernel)
set_option maxRecDepth 20000 in
theorem gX3_leaves_X3_no : GoodIn wsX3_leaves (wsV RX3 92 RX3 yX3_no wsX3_no) := goodIn_app (goodIn_of _ (by decide +kernel)) ggX3_leaves_X3_no
theorem dX3_leaves_0 : decode cX3_leaves 0 = .ok (.aload_n 0, 1) := by decide +kernel
theorem dX3_leaves_1 : decode cX3_leaves 1 = .ok (.iconst 0, 1) := by decide +kernel
theorem dX3_leaves_2 : decode cX3_leaves 2 = .ok (.putfield 16, 3) := by decide +kernel
theorem dX3_leaves_5 : decode cX3_leaves 5 = .ok (.iload_n 1, 1) := by decide +kernel
theorem dX3_leaves_6 : decode cX3_leaves 6 = .ok (.invokestatic 88, 3) := by decide +kernel
theorem dX3_leaves_9 : decode cX3_leaves 9 = .ok (.ifCond .eq 20, 3) := by decide +kernel
theorem dX3_leaves_12 : decode cX3_leaves 12 = .ok (.aload_n 0, 1) := by decide +kernel
theorem dX3_leaves_13 : decode cX3_leaves 13 = .ok (.aload_n 0, 1) := by decide +kernel
theorem dX3_leaves_14 : decode cX3_leaves 14 = .ok (.getfield 9, 3) := by decide +kernel
theorem dX3_leaves_17 : decode cX3_leaves 17 = .ok (.sipush 200, 3) := by decide +kernel
theorem dX3_leaves_20 : decode cX3_leaves 20 = .ok (.iload_n 1, 1) := by decide +kernel
theorem dX3_leaves_21 : decode cX3_leaves 21 = .ok (.iadd, 1) := by decide +kernel
theorem dX3_leaves_22 : decode cX3_leaves 22 = .ok (.iaload, 1) := by decide +kernel
theorem dX3_leaves_23 : decode cX3_leaves 23 = .ok (.invokevirtual 65, 3) := by decide +kernel
theorem dX3_leaves_26 : decode cX3_leaves 26 = .ok (.goto 8, 3) := by decide +kernel
theorem dX3_leaves_29 : decode cX3_leaves 29 = .ok (.aload_n 0, 1) := by decide +kernel
theorem dX3_leaves_30 : decode cX3_leaves 30 = .ok (.iconst 1, 1) := by decide +kernel
theorem dX3_leaves_31 : decode cX3_leaves 31 = .ok (.invokevirtual 92, 3) := by decide +kernel
theorem dX3_leaves_34 : decode cX3_leaves 34 = .ok (.ireturn, 1) := by decide +kernel
set_option maxRecDepth 20000 in
theorem ggX3_has_X3_isRow : GoodIn wsX3_has wsX3_isRow := goodIn_r _ [5] (by decide +kernel) (by decide +kernel)
set_option maxRecDepth 20000 in
theorem gX3_has_X3_isRow : GoodIn wsX3_has (va_wsS RX3 88 yX3_isRow wsX3_isRow) := goodIn_app (goodIn_of _ (by decide +kernel)) ggX3_has_X3_isRow
set_option maxRecDepth 20000 in
theorem ggX3_has_X3_find : GoodIn wsX3_has wsX3_find := goodIn_r _ [9, 10, 15, 16, 17, 18, 19, 20] (by decide +kernel) (by decide +kernel)
set_option maxRecDepth 20000 in
theorem gX3_has_X3_find : GoodIn wsX3_has (wsV RX3 98 RX3 yX3_find wsX3_find) := goodIn_app (goodIn_of _ (by decide +kernel)) ggX3_has_X3_find
set_option maxRecDepth 20000 in
theorem ggX3_has_X3_isNot : GoodIn wsX3_has wsX3_isNot := goodIn_r _ [14, 1, 15, 16, 17, 18, 19, 20] (by decide +kernel) (by decide +kernel)
set_option maxRecDepth 20000 in
theorem gX3_has_X3_isNot : GoodIn wsX3_has (wsV RX3 136 RX3 yX3_isNot wsX3_isNot) := goodIn_app (goodIn_of _ (by decide +kernel)) ggX3_has_X3_isNot
theorem dX3_has_0 : decode cX3_has 0 = .ok (.aload_n 0, 1) := by decide +kernel
theorem dX3_has_1 : decode cX3_has 1 = .ok (.iconst 0, 1) := by decide +kernel
theorem dX3_has_2 : decode cX3_has 2 = .ok (.putfield 16, 3) := by decide +kernel
theorem dX3_has_5 : decode cX3_has 5 = .ok (.iload_n 1, 1) := by decide +kernel
theorem dX3_has_6 : decode cX3_has 6 = .ok (.invokestatic 88, 3) := by decide +kernel
theorem dX3_has_9 : decode cX3_has 9 = .ok (.ifCond .eq 21, 3) := by decide +kernel
theorem dX3_has_12 : decode cX3_has 12 = .ok (.aload_n 0, 1) := by decide +kernel
theorem dX3_has_13 : decode cX3_has 13 = .ok (.iload_n 1, 1) := by decide +kernel
theorem dX3_has_14 : decode cX3_has 14 = .ok (.iload_n 2, 1) := by decide +kernel
theorem dX3_has_15 : decode cX3_has 15 = .ok (.invokevirtual 98, 3) := by decide +kernel
theorem dX3_has_18 : decode cX3_has 18 = .ok (.iconst (-1), 1) := by decide +kernel
theorem dX3_has_19 : decode cX3_has 19 = .ok (.if_icmp .eq 7, 3) := by decide +kernel
theorem dX3_has_22 : decode cX3_has 22 = .ok (.iconst 1, 1) := by decide +kernel
theorem dX3_has_23 : decode cX3_has 23 = .ok (.goto 12, 3) := by decide +kernel
theorem dX3_has_26 : decode cX3_has 26 = .ok (.iconst 0, 1) := by decide +kernel
theorem dX3_has_27 : decode cX3_has 27 = .ok (.goto 8, 3) := by decide +kernel
theorem dX3_has_30 : decode cX3_has 30 = .ok (.aload_n 0, 1) := by decide +kernel
theorem dX3_has_31 : decode cX3_has 31 = .ok (.iconst 1, 1) := by decide +kernel
theorem dX3_has_32 : decode cX3_has 32 = .ok (.invokevirtual 136, 3) := by decide +kernel
theorem dX3_has_35 : decode cX3_has 35 = .ok (.ireturn, 1) := by decide +kernel
set_option maxRecDepth 20000 in
theorem ggX3_smaller_X3_isRow : GoodIn wsX3_smaller wsX3_isRow := goodIn_r _ [6] (by decide +kernel) (by decide +kernel)
set_option maxRecDepth 20000 in
theorem gX3_smaller_X3_isRow : GoodIn wsX3_smaller (va_wsS RX3 88 yX3_isRow wsX3_isRow) := goodIn_app (goodIn_of _ (by decide +kernel)) ggX3_smaller_X3_isRow
set_option maxRecDepth 20000 in
theorem ggX3_smaller_X3_under : GoodIn wsX3_smaller wsX3_under := goodIn_r _ [10, 2, 11, 12, 13, 5, 14, 7, 8, 9, 19, 20, 21, 22, 23, 24] (by decide +kernel) (by decide +kernel)
set_option maxRecDepth 20000 in
theorem gX3_smaller_X3_under : GoodIn wsX3_smaller (wsV RX3 68 RX3 yX3_under wsX3_under) := goodIn_app (goodIn_of _ (by decide +kernel)) ggX3_smaller_X3_under
set_option maxRecDepth 20000 in
theorem ggX3_smaller_X3_no : GoodIn wsX3_smaller wsX3_no := goodIn_r _ [18, 1, 19, 20, 21, 22, 23, 24] (by decide +kernel) (by decide +kernel)
set_option maxRecDepth 20000 in
theorem gX3_smaller_X3_no : GoodIn wsX3_smaller (wsV RX3 92 RX3 yX3_no wsX3_no) := goodIn_app (goodIn_of _ (by decide +kernel)) ggX3_smaller_X3_no
theorem dX3_smaller_0 : decode cX3_smaller 0 = .ok (.aload_n 0, 1) := by decide +kernel
theorem dX3_smaller_1 : decode cX3_smaller 1 = .ok (.iconst 0, 1) := by decide +kernel
theorem dX3_smaller_2 : decode cX3_smaller 2 = .ok (.putfield 16, 3) := by decide +kernel
theorem dX3_smaller_5 : decode cX3_smaller 5 = .ok (.iload_n 1, 1) := by decide +kernel
theorem dX3_smaller_6 : decode cX3_smaller 6 = .ok (.invokestatic 88, 3) := by decide +kernel
theorem dX3_smaller_9 : decode cX3_smaller 9 = .ok (.ifCond .eq 21, 3) := by decide +kernel
theorem dX3_smaller_12 : decode cX3_smaller 12 = .ok (.aload_n 0, 1) := by decide +kernel
theorem dX3_smaller_13 : decode cX3_smaller 13 = .ok (.aload_n 0, 1) := by decide +kernel
theorem dX3_smaller_14 : decode cX3_smaller 14 = .ok (.getfield 9, 3) := by decide +kernel
theorem dX3_smaller_17 : decode cX3_smaller 17 = .ok (.sipush 200, 3) := by decide +kernel
theorem dX3_smaller_20 : decode cX3_smaller 20 = .ok (.iload_n 1, 1) := by decide +kernel
theorem dX3_smaller_21 : decode cX3_smaller 21 = .ok (.iadd, 1) := by decide +kernel
theorem dX3_smaller_22 : decode cX3_smaller 22 = .ok (.iaload, 1) := by decide +kernel
theorem dX3_smaller_23 : decode cX3_smaller 23 = .ok (.iload_n 2, 1) := by decide +kernel
theorem dX3_smaller_24 : decode cX3_smaller 24 = .ok (.invokevirtual 68, 3) := by decide +kernel
theorem dX3_smaller_27 : decode cX3_smaller 27 = .ok (.goto 8, 3) := by decide +kernel
theorem dX3_smaller_30 : decode cX3_smaller 30 = .ok (.aload_n 0, 1) := by decide +kernel
theorem dX3_smaller_31 : decode cX3_smaller 31 = .ok (.iconst 1, 1) := by decide +kernel
theorem dX3_smaller_32 : decode cX3_smaller 32 = .ok (.invokevirtual 92, 3) := by decide +kernel
theorem dX3_smaller_35 : decode cX3_smaller 35 = .ok (.ireturn, 1) := by decide +kernel
set_option maxRecDepth 20000 in
theorem ggX3_asked_X3_isRow : GoodIn wsX3_asked wsX3_isRow := goodIn_r _ [5] (by decide +kernel) (by decide +kernel)
set_option maxRecDepth 20000 in
theorem gX3_asked_X3_isRow : GoodIn wsX3_asked (va_wsS RX3 88 yX3_isRow wsX3_isRow) := goodIn_app (goodIn_of _ (by decide +kernel)) ggX3_asked_X3_isRow
set_option maxRecDepth 20000 in
theorem ggX3_asked_X3_no : GoodIn wsX3_asked wsX3_no := goodIn_r _ [9, 1, 15, 16, 17, 18, 19, 20] (by decide +kernel) (by decide +kernel)
set_option maxRecDepth 20000 in
theorem gX3_asked_X3_no : GoodIn wsX3_asked (wsV RX3 92 RX3 yX3_no wsX3_no) := goodIn_app (goodIn_of _ (by decide +kernel)) ggX3_asked_X3_no
set_option maxRecDepth 20000 in
theorem ggX3_asked_X3_find : GoodIn wsX3_asked wsX3_find := goodIn_r _ [13, 14, 15, 16, 17, 18, 19, 20] (by decide +kernel) (by decide +kernel)
set_option maxRecDepth 20000 in
theorem gX3_asked_X3_find : GoodIn wsX3_asked (wsV RX3 98 RX3 yX3_find wsX3_find) := goodIn_app (goodIn_of _ (by decide +kernel)) ggX3_asked_X3_find
theorem dX3_asked_0 : decode cX3_asked 0 = .ok (.aload_n 0, 1) := by decide +kernel
theorem dX3_asked_1 : decode cX3_asked 1 = .ok (.iconst 0, 1) := by decide +kernel
theorem dX3_asked_2 : decode cX3_asked 2 = .ok (.putfield 16, 3) := by decide +kernel
theorem dX3_asked_5 : decode cX3_asked 5 = .ok (.iload_n 1, 1) := by decide +kernel
theorem dX3_asked_6 : decode cX3_asked 6 = .ok (.invokestatic 88, 3) := by decide +kernel
theorem dX3_asked_9 : decode cX3_asked 9 = .ok (.ifCond .ne 11, 3) := by decide +kernel
theorem dX3_asked_12 : decode cX3_asked 12 = .ok (.aload_n 0, 1) := by decide +kernel
theorem dX3_asked_13 : decode cX3_asked 13 = .ok (.iconst 1, 1) := by decide +kernel
theorem dX3_asked_14 : decode cX3_asked 14 = .ok (.invokevirtual 92, 3) := by decide +kernel
theorem dX3_asked_17 : decode cX3_asked 17 = .ok (.iconst (-1), 1) := by decide +kernel
theorem dX3_asked_18 : decode cX3_asked 18 = .ok (.iadd, 1) := by decide +kernel
theorem dX3_asked_19 : decode cX3_asked 19 = .ok (.ireturn, 1) := by decide +kernel
theorem dX3_asked_20 : decode cX3_asked 20 = .ok (.aload_n 0, 1) := by decide +kernel
theorem dX3_asked_21 : decode cX3_asked 21 = .ok (.iload_n 1, 1) := by decide +kernel
theorem dX3_asked_22 : decode cX3_asked 22 = .ok (.iload_n 2, 1) := by decide +kernel
theorem dX3_asked_23 : decode cX3_asked 23 = .ok (.invokevirtual 98, 3) := by decide +kernel
theorem dX3_asked_26 : decode cX3_asked 26 = .ok (.istore_n 3, 1) := by decide +kernel
theorem dX3_asked_27 : decode cX3_asked 27 = .ok (.iload_n 3, 1) := by decide +kernel
theorem dX3_asked_28 : decode cX3_asked 28 = .ok (.iconst (-1), 1) := by decide +kernel
theorem dX3_asked_29 : decode cX3_asked 29 = .ok (.if_icmp .ne 13, 3) := by decide +kernel
theorem dX3_asked_32 : decode cX3_asked 32 = .ok (.aload_n 0, 1) := by decide +kernel
theorem dX3_asked_33 : decode cX3_asked 33 = .ok (.iconst 2, 1) := by decide +kernel
theorem dX3_asked_34 : decode cX3_asked 34 = .ok (.invokevirtual 92, 3) := by decide +kernel
theorem dX3_asked_37 : decode cX3_asked 37 = .ok (.iconst (-1), 1) := by decide +kernel
theorem dX3_asked_38 : decode cX3_asked 38 = .ok (.iadd, 1) := by decide +kernel
theorem dX3_asked_39 : decode cX3_asked 39 = .ok (.goto 4, 3) := by decide +kernel
theorem dX3_asked_42 : decode cX3_asked 42 = .ok (.iload_n 3, 1) := by decide +kernel
theorem dX3_asked_43 : decode cX3_asked 43 = .ok (.ireturn, 1) := by decide +kernel
set_option maxRecDepth 20000 in
theorem ggX3_depthOf_X3_asked : GoodIn wsX3_depthOf wsX3_asked := goodIn_r _ [5, 6, 7, 8, 4, 9, 10, 11, 12, 13, 14, 15, 16, 17, 18, 23, 24, 25, 26, 27, 28] (by decide +kernel) (by decide +kernel)
set_option maxRecDepth 20000 in
theorem gX3_depthOf_X3_asked : GoodIn wsX3_depthOf (wsV RX3 139 RX3 yX3_asked wsX3_asked) := goodIn_app (goodIn_of _ (by decide +kernel)) ggX3_depthOf_X3_asked
set_option maxRecDepth 20000 in
theorem ggX3_depthOf_X3_deep : GoodIn wsX3_depthOf wsX3_deep := goodIn_r _ [22, 18, 23, 24, 25, 26, 27, 28] (by decide +kernel) (by decide +kernel)
set_option maxRecDepth 20000 in
theorem gX3_depthOf_X3_deep : GoodIn wsX3_depthOf (wsV RX3 81 RX3 yX3_deep wsX3_deep) := goodIn_app (goodIn_of _ (by decide +kernel)) ggX3_depthOf_X3_deep
theorem dX3_depthOf_0 : decode cX3_depthOf 0 = .ok (.aload_n 0, 1) := by decide +kernel
theorem dX3_depthOf_1 : decode cX3_depthOf 1 = .ok (.iload_n 1, 1) := by decide +kernel
theorem dX3_depthOf_2 : decode cX3_depthOf 2 = .ok (.iload_n 2, 1) := by decide +kernel
theorem dX3_depthOf_3 : decode cX3_depthOf 3 = .ok (.invokevirtual 139, 3) := by decide +kernel
theorem dX3_depthOf_6 : decode cX3_depthOf 6 = .ok (.istore_n 3, 1) := by decide +kernel
theorem dX3_depthOf_7 : decode cX3_depthOf 7 = .ok (.iload_n 3, 1) := by decide +kernel
theorem dX3_depthOf_8 : decode cX3_depthOf 8 = .ok (.iconst (-1), 1) := by decide +kernel
theorem dX3_depthOf_9 : decode cX3_depthOf 9 = .ok (.if_icmp .ne 7, 3) := by decide +kernel
theorem dX3_depthOf_12 : decode cX3_depthOf 12 = .ok (.iconst 0, 1) := by decide +kernel
theorem dX3_depthOf_13 : decode cX3_depthOf 13 = .ok (.goto 8, 3) := by decide +kernel
theorem dX3_depthOf_16 : decode cX3_depthOf 16 = .ok (.aload_n 0, 1) := by decide +kernel
theorem dX3_depthOf_17 : decode cX3_depthOf 17 = .ok (.iload_n 3, 1) := by decide +kernel
theorem dX3_depthOf_18 : decode cX3_depthOf 18 = .ok (.invokevirtual 81, 3) := by decide +kernel
theorem dX3_depthOf_21 : decode cX3_depthOf 21 = .ok (.ireturn, 1) := by decide +kernel
set_option maxRecDepth 20000 in
theorem ggX3_above_X3_asked : GoodIn wsX3_above wsX3_asked := goodIn_r _ [6, 7, 8, 9, 5, 10, 11, 12, 13, 14, 15, 16, 17, 18, 1, 23, 24, 25, 26, 27, 28] (by decide +kernel) (by decide +kernel)
set_option maxRecDepth 20000 in
theorem gX3_above_X3_asked : GoodIn wsX3_above (wsV RX3 139 RX3 yX3_asked wsX3_asked) := goodIn_app (goodIn_of _ (by decide +kernel)) ggX3_above_X3_asked
set_option maxRecDepth 20000 in
theorem ggX3_above_X3_sizeAt : GoodIn wsX3_above wsX3_sizeAt := goodIn_r _ [22, 1, 23, 24, 25, 26, 27, 28] (by decide +kernel) (by decide +kernel)
set_option maxRecDepth 20000 in
theorem gX3_above_X3_sizeAt : GoodIn wsX3_above (wsV RX3 130 RX3 yX3_sizeAt wsX3_sizeAt) := goodIn_app (goodIn_of _ (by decide +kernel)) ggX3_above_X3_sizeAt
theorem dX3_above_0 : decode cX3_above 0 = .ok (.aload_n 0, 1) := by decide +kernel
theorem dX3_above_1 : decode cX3_above 1 = .ok (.iload_n 1, 1) := by decide +kernel
theorem dX3_above_2 : decode cX3_above 2 = .ok (.iload_n 2, 1) := by decide +kernel
theorem dX3_above_3 : decode cX3_above 3 = .ok (.invokevirtual 139, 3) := by decide +kernel
theorem dX3_above_6 : decode cX3_above 6 = .ok (.istore_n 3, 1) := by decide +kernel
theorem dX3_above_7 : decode cX3_above 7 = .ok (.iload_n 3, 1) := by decide +kernel
theorem dX3_above_8 : decode cX3_above 8 = .ok (.iconst (-1), 1) := by decide +kernel
theorem dX3_above_9 : decode cX3_above 9 = .ok (.if_icmp .ne 7, 3) := by decide +kernel
theorem dX3_above_12 : decode cX3_above 12 = .ok (.iconst 0, 1) := by decide +kernel
theorem dX3_above_13 : decode cX3_above 13 = .ok (.goto 16, 3) := by decide +kernel
theorem dX3_above_16 : decode cX3_above 16 = .ok (.aload_n 0, 1) := by decide +kernel
theorem dX3_above_17 : decode cX3_above 17 = .ok (.aload_n 0, 1) := by decide +kernel
theorem dX3_above_18 : decode cX3_above 18 = .ok (.getfield 9, 3) := by decide +kernel
theorem dX3_above_21 : decode cX3_above 21 = .ok (.bipush 120, 2) := by decide +kernel
theorem dX3_above_23 : decode cX3_above 23 = .ok (.iload_n 3, 1) := by decide +kernel
theorem dX3_above_24 : decode cX3_above 24 = .ok (.iadd, 1) := by decide +kernel
theorem dX3_above_25 : decode cX3_above 25 = .ok (.iaload, 1) := by decide +kernel
theorem dX3_above_26 : decode cX3_above 26 = .ok (.invokevirtual 130, 3) := by decide +kernel
theorem dX3_above_29 : decode cX3_above 29 = .ok (.ireturn, 1) := by decide +kernel
set_option maxRecDepth 20000 in
theorem ggX3_leftOf_X3_asked : GoodIn wsX3_leftOf wsX3_asked := goodIn_r _ [6, 7, 8, 9, 5, 10, 11, 12, 13, 14, 15, 16, 17, 18, 1, 23, 24, 25, 26, 27, 28] (by decide +kernel) (by decide +kernel)
set_option maxRecDepth 20000 in
theorem gX3_leftOf_X3_asked : GoodIn wsX3_leftOf (wsV RX3 139 RX3 yX3_asked wsX3_asked) := goodIn_app (goodIn_of _ (by decide +kernel)) ggX3_leftOf_X3_asked
set_option maxRecDepth 20000 in
theorem ggX3_leftOf_X3_sizeAt : GoodIn wsX3_leftOf wsX3_sizeAt := goodIn_r _ [22, 1, 23, 24, 25, 26, 27, 28] (by decide +kernel) (by decide +kernel)
set_option maxRecDepth 20000 in
theorem gX3_leftOf_X3_sizeAt : GoodIn wsX3_leftOf (wsV RX3 130 RX3 yX3_sizeAt wsX3_sizeAt) := goodIn_app (goodIn_of _ (by decide +kernel)) ggX3_leftOf_X3_sizeAt
theorem dX3_leftOf_0 : decode cX3_leftOf 0 = .ok (.aload_n 0, 1) := by decide +kernel
theorem dX3_leftOf_1 : decode cX3_leftOf 1 = .ok (.iload_n 1, 1) := by decide +kernel
theorem dX3_leftOf_2 : decode cX3_leftOf 2 = .ok (.iload_n 2, 1) := by decide +kernel
theorem dX3_leftOf_3 : decode cX3_leftOf 3 = .ok (.invokevirtual 139, 3) := by decide +kernel
theorem dX3_leftOf_6 : decode cX3_leftOf 6 = .ok (.istore_n 3, 1) := by decide +kernel
theorem dX3_leftOf_7 : decode cX3_leftOf 7 = .ok (.iload_n 3, 1) := by decide +kernel
theorem dX3_leftOf_8 : decode cX3_leftOf 8 = .ok (.iconst (-1), 1) := by decide +kernel
theorem dX3_leftOf_9 : decode cX3_leftOf 9 = .ok (.if_icmp .ne 7, 3) := by decide +kernel
theorem dX3_leftOf_12 : decode cX3_leftOf 12 = .ok (.iconst 0, 1) := by decide +kernel
theorem dX3_leftOf_13 : decode cX3_leftOf 13 = .ok (.goto 16, 3) := by decide +kernel
theorem dX3_leftOf_16 : decode cX3_leftOf 16 = .ok (.aload_n 0, 1) := by decide +kernel
theorem dX3_leftOf_17 : decode cX3_leftOf 17 = .ok (.aload_n 0, 1) := by decide +kernel
theorem dX3_leftOf_18 : decode cX3_leftOf 18 = .ok (.getfield 9, 3) := by decide +kernel
theorem dX3_leftOf_21 : decode cX3_leftOf 21 = .ok (.bipush 40, 2) := by decide +kernel
theorem dX3_leftOf_23 : decode cX3_leftOf 23 = .ok (.iload_n 3, 1) := by decide +kernel
theorem dX3_leftOf_24 : decode cX3_leftOf 24 = .ok (.iadd, 1) := by decide +kernel
theorem dX3_leftOf_25 : decode cX3_leftOf 25 = .ok (.iaload, 1) := by decide +kernel
theorem dX3_leftOf_26 : decode cX3_leftOf 26 = .ok (.invokevirtual 130, 3) := by decide +kernel
theorem dX3_leftOf_29 : decode cX3_leftOf 29 = .ok (.ireturn, 1) := by decide +kernel
set_option maxRecDepth 20000 in
theorem ggX3_rightOf_X3_asked : GoodIn wsX3_rightOf wsX3_asked := goodIn_r _ [6, 7, 8, 9, 5, 10, 11, 12, 13, 14, 15, 16, 17, 18, 1, 23, 24, 25, 26, 27, 28] (by decide +kernel) (by decide +kernel)
set_option maxRecDepth 20000 in
theorem gX3_rightOf_X3_asked : GoodIn wsX3_rightOf (wsV RX3 139 RX3 yX3_asked wsX3_asked) := goodIn_app (goodIn_of _ (by decide +kernel)) ggX3_rightOf_X3_asked
set_option maxRecDepth 20000 in
theorem ggX3_rightOf_X3_sizeAt : GoodIn wsX3_rightOf wsX3_sizeAt := goodIn_r _ [22, 1, 23, 24, 25, 26, 27, 28] (by decide +kernel) (by decide +kernel)
set_option maxRecDepth 20000 in
theorem gX3_rightOf_X3_sizeAt : GoodIn wsX3_rightOf (wsV RX3 130 RX3 yX3_sizeAt wsX3_sizeAt) := goodIn_app (goodIn_of _ (by decide +kernel)) ggX3_rightOf_X3_sizeAt
theorem dX3_rightOf_0 : decode cX3_rightOf 0 = .ok (.aload_n 0, 1) := by decide +kernel
theorem dX3_rightOf_1 : decode cX3_rightOf 1 = .ok (.iload_n 1, 1) := by decide +kernel
theorem dX3_rightOf_2 : decode cX3_rightOf 2 = .ok (.iload_n 2, 1) := by decide +kernel
theorem dX3_rightOf_3 : decode cX3_rightOf 3 = .ok (.invokevirtual 139, 3) := by decide +kernel
theorem dX3_rightOf_6 : decode cX3_rightOf 6 = .ok (.istore_n 3, 1) := by decide +kernel
theorem dX3_rightOf_7 : decode cX3_rightOf 7 = .ok (.iload_n 3, 1) := by decide +kernel
theorem dX3_rightOf_8 : decode cX3_rightOf 8 = .ok (.iconst (-1), 1) := by decide +kernel
theorem dX3_rightOf_9 : decode cX3_rightOf 9 = .ok (.if_icmp .ne 7, 3) := by decide +kernel
theorem dX3_rightOf_12 : decode cX3_rightOf 12 = .ok (.iconst 0, 1) := by decide +kernel
theorem dX3_rightOf_13 : decode cX3_rightOf 13 = .ok (.goto 16, 3) := by decide +kernel
theorem dX3_rightOf_16 : decode cX3_rightOf 16 = .ok (.aload_n 0, 1) := by decide +kernel
theorem dX3_rightOf_17 : decode cX3_rightOf 17 = .ok (.aload_n 0, 1) := by decide +kernel
theorem dX3_rightOf_18 : decode cX3_rightOf 18 = .ok (.getfield 9, 3) := by decide +kernel
theorem dX3_rightOf_21 : decode cX3_rightOf 21 = .ok (.bipush 80, 2) := by decide +kernel
theorem dX3_rightOf_23 : decode cX3_rightOf 23 = .ok (.iload_n 3, 1) := by decide +kernel
theorem dX3_rightOf_24 : decode cX3_rightOf 24 = .ok (.iadd, 1) := by decide +kernel
theorem dX3_rightOf_25 : decode cX3_rightOf 25 = .ok (.iaload, 1) := by decide +kernel
theorem dX3_rightOf_26 : decode cX3_rightOf 26 = .ok (.invokevirtual 130, 3) := by decide +kernel
theorem dX3_rightOf_29 : decode cX3_rightOf 29 = .ok (.ireturn, 1) := by decide +kernel
set_option maxRecDepth 20000 in
theorem ggX3_below_X3_asked : GoodIn wsX3_below wsX3_asked := goodIn_r _ [5, 6, 7, 8, 4, 9, 10, 11, 12, 13, 14, 15, 16, 17, 18, 23, 24, 25, 26, 27, 28] (by decide +kernel) (by decide +kernel)
set_option maxRecDepth 20000 in
theorem gX3_below_X3_asked : GoodIn wsX3_below (wsV RX3 139 RX3 yX3_asked wsX3_asked) := goodIn_app (goodIn_of _ (by decide +kernel)) ggX3_below_X3_asked
set_option maxRecDepth 20000 in
theorem ggX3_below_X3_count : GoodIn wsX3_below wsX3_count := goodIn_r _ [22, 18, 19, 20, 21, 4, 23, 24, 25, 26, 27, 28] (by decide +kernel) (by decide +kernel)
set_option maxRecDepth 20000 in
theorem gX3_below_X3_count : GoodIn wsX3_below (wsV RX3 50 RX3 yX3_count wsX3_count) := goodIn_app (goodIn_of _ (by decide +kernel)) ggX3_below_X3_count
theorem dX3_below_0 : decode cX3_below 0 = .ok (.aload_n 0, 1) := by decide +kernel
theorem dX3_below_1 : decode cX3_below 1 = .ok (.iload_n 1, 1) := by decide +kernel
theorem dX3_below_2 : decode cX3_below 2 = .ok (.iload_n 2, 1) := by decide +kernel
theorem dX3_below_3 : decode cX3_below 3 = .ok (.invokevirtual 139, 3) := by decide +kernel
theorem dX3_below_6 : decode cX3_below 6 = .ok (.istore_n 3, 1) := by decide +kernel
theorem dX3_below_7 : decode cX3_below 7 = .ok (.iload_n 3, 1) := by decide +kernel
theorem dX3_below_8 : decode cX3_below 8 = .ok (.iconst (-1), 1) := by decide +kernel
theorem dX3_below_9 : decode cX3_below 9 = .ok (.if_icmp .ne 7, 3) := by decide +kernel
theorem dX3_below_12 : decode cX3_below 12 = .ok (.iconst 0, 1) := by decide +kernel
theorem dX3_below_13 : decode cX3_below 13 = .ok (.goto 10, 3) := by decide +kernel
theorem dX3_below_16 : decode cX3_below 16 = .ok (.aload_n 0, 1) := by decide +kernel
theorem dX3_below_17 : decode cX3_below 17 = .ok (.iload_n 3, 1) := by decide +kernel
theorem dX3_below_18 : decode cX3_below 18 = .ok (.invokevirtual 50, 3) := by decide +kernel
theorem dX3_below_21 : decode cX3_below 21 = .ok (.iconst 1, 1) := by decide +kernel
theorem dX3_below_22 : decode cX3_below 22 = .ok (.isub, 1) := by decide +kernel
theorem dX3_below_23 : decode cX3_below 23 = .ok (.ireturn, 1) := by decide +kernel
set_option maxRecDepth 20000 in
theorem ggX3_eaten_X3_asked : GoodIn wsX3_eaten wsX3_asked := goodIn_r _ [6, 7, 8, 9, 5, 10, 11, 12, 13, 14, 15, 16, 17, 18, 1, 19, 20, 21, 22, 23, 24] (by decide +kernel) (by decide +kernel)
set_option maxRecDepth 20000 in
theorem gX3_eaten_X3_asked : GoodIn wsX3_eaten (wsV RX3 139 RX3 yX3_asked wsX3_asked) := goodIn_app (goodIn_of _ (by decide +kernel)) ggX3_eaten_X3_asked
theorem dX3_eaten_0 : decode cX3_eaten 0 = .ok (.aload_n 0, 1) := by decide +kernel
theorem dX3_eaten_1 : decode cX3_eaten 1 = .ok (.iload_n 1, 1) := by decide +kernel
theorem dX3_eaten_2 : decode cX3_eaten 2 = .ok (.iload_n 2, 1) := by decide +kernel
theorem dX3_eaten_3 : decode cX3_eaten 3 = .ok (.invokevirtual 139, 3) := by decide +kernel
theorem dX3_eaten_6 : decode cX3_eaten 6 = .ok (.istore_n 3, 1) := by decide +kernel
theorem dX3_eaten_7 : decode cX3_eaten 7 = .ok (.iload_n 3, 1) := by decide +kernel
theorem dX3_eaten_8 : decode cX3_eaten 8 = .ok (.iconst (-1), 1) := by decide +kernel
theorem dX3_eaten_9 : decode cX3_eaten 9 = .ok (.if_icmp .ne 7, 3) := by decide +kernel
theorem dX3_eaten_12 : decode cX3_eaten 12 = .ok (.iconst 0, 1) := by decide +kernel
theorem dX3_eaten_13 : decode cX3_eaten 13 = .ok (.goto 13, 3) := by decide +kernel
theorem dX3_eaten_16 : decode cX3_eaten 16 = .ok (.aload_n 0, 1) := by decide +kernel
theorem dX3_eaten_17 : decode cX3_eaten 17 = .ok (.getfield 9, 3) := by decide +kernel
theorem dX3_eaten_20 : decode cX3_eaten 20 = .ok (.sipush 160, 3) := by decide +kernel
theorem dX3_eaten_23 : decode cX3_eaten 23 = .ok (.iload_n 3, 1) := by decide +kernel
theorem dX3_eaten_24 : decode cX3_eaten 24 = .ok (.iadd, 1) := by decide +kernel
theorem dX3_eaten_25 : decode cX3_eaten 25 = .ok (.iaload, 1) := by decide +kernel
theorem dX3_eaten_26 : decode cX3_eaten 26 = .ok (.ireturn, 1) := by decide +kernel
set_option maxRecDepth 20000 in
theorem ggX3_liked_X3_count : GoodIn wsX3_liked wsX3_count := goodIn_r _ [6, 1, 2, 3, 4, 5, 15, 16, 17, 18, 19, 20] (by decide +kernel) (by decide +kernel)
set_option maxRecDepth 20000 in
theorem gX3_liked_X3_count : GoodIn wsX3_liked (wsV RX3 50 RX3 yX3_count wsX3_count) := goodIn_app (goodIn_of _ (by decide +kernel)) ggX3_liked_X3_count
set_option maxRecDepth 20000 in
theorem ggX3_liked_X3_nth : GoodIn wsX3_liked wsX3_nth := goodIn_r _ [10, 1, 2, 3, 4, 5, 6, 7, 8, 9, 15, 16, 17, 18, 19, 20] (by decide +kernel) (by decide +kernel)
set_option maxRecDepth 20000 in
theorem gX3_liked_X3_nth : GoodIn wsX3_liked (wsV RX3 71 RX3 yX3_nth wsX3_nth) := goodIn_app (goodIn_of _ (by decide +kernel)) ggX3_liked_X3_nth
set_option maxRecDepth 20000 in
theorem ggX3_liked_X3_sizeAt : GoodIn wsX3_liked wsX3_sizeAt := goodIn_r _ [14, 1, 15, 16, 17, 18, 19, 20] (by decide +kernel) (by decide +kernel)
set_option maxRecDepth 20000 in
theorem gX3_liked_X3_sizeAt : GoodIn wsX3_liked (wsV RX3 130 RX3 yX3_sizeAt wsX3_sizeAt) := goodIn_app (goodIn_of _ (by decide +kernel)) ggX3_liked_X3_sizeAt
theorem dX3_liked_0 : decode cX3_liked 0 = .ok (.iconst (-1), 1) := by decide +kernel
theorem dX3_liked_1 : decode cX3_liked 1 = .ok (.istore_n 2, 1) := by decide +kernel
theorem dX3_liked_2 : decode cX3_liked 2 = .ok (.aload_n 0, 1) := by decide +kernel
theorem dX3_liked_3 : decode cX3_liked 3 = .ok (.aload_n 0, 1) := by decide +kernel
theorem dX3_liked_4 : decode cX3_liked 4 = .ok (.getfield 9, 3) := by decide +kernel
theorem dX3_liked_7 : decode cX3_liked 7 = .ok (.sipush 200, 3) := by decide +kernel
theorem dX3_liked_10 : decode cX3_liked 10 = .ok (.iload_n 1, 1) := by decide +kernel
theorem dX3_liked_11 : decode cX3_liked 11 = .ok (.iadd, 1) := by decide +kernel
theorem dX3_liked_12 : decode cX3_liked 12 = .ok (.iaload, 1) := by decide +kernel
theorem dX3_liked_13 : decode cX3_liked 13 = .ok (.invokevirtual 50, 3) := by decide +kernel
theorem dX3_liked_16 : decode cX3_liked 16 = .ok (.iconst 1, 1) := by decide +kernel
theorem dX3_liked_17 : decode cX3_liked 17 = .ok (.isub, 1) := by decide +kernel
theorem dX3_liked_18 : decode cX3_liked 18 = .ok (.istore_n 3, 1) := by decide +kernel
theorem dX3_liked_19 : decode cX3_liked 19 = .ok (.iload_n 3, 1) := by decide +kernel
theorem dX3_liked_20 : decode cX3_liked 20 = .ok (.ifCond .lt 58, 3) := by decide +kernel
theorem dX3_liked_23 : decode cX3_liked 23 = .ok (.aload_n 0, 1) := by decide +kernel
theorem dX3_liked_24 : decode cX3_liked 24 = .ok (.aload_n 0, 1) := by decide +kernel
theorem dX3_liked_25 : decode cX3_liked 25 = .ok (.getfield 9, 3) := by decide +kernel
theorem dX3_liked_28 : decode cX3_liked 28 = .ok (.sipush 200, 3) := by decide +kernel
theorem dX3_liked_31 : decode cX3_liked 31 = .ok (.iload_n 1, 1) := by decide +kernel
theorem dX3_liked_32 : decode cX3_liked 32 = .ok (.iadd, 1) := by decide +kernel
theorem dX3_liked_33 : decode cX3_liked 33 = .ok (.iaload, 1) := by decide +kernel
theorem dX3_liked_34 : decode cX3_liked 34 = .ok (.iload_n 3, 1) := by decide +kernel
theorem dX3_liked_35 : decode cX3_liked 35 = .ok (.invokevirtual 71, 3) := by decide +kernel
theorem dX3_liked_38 : decode cX3_liked 38 = .ok (.istore 4, 2) := by decide +kernel
theorem dX3_liked_40 : decode cX3_liked 40 = .ok (.iload_n 2, 1) := by decide +kernel
theorem dX3_liked_41 : decode cX3_liked 41 = .ok (.iconst (-1), 1) := by decide +kernel
theorem dX3_liked_42 : decode cX3_liked 42 = .ok (.if_icmp .eq 27, 3) := by decide +kernel
theorem dX3_liked_45 : decode cX3_liked 45 = .ok (.aload_n 0, 1) := by decide +kernel
theorem dX3_liked_46 : decode cX3_liked 46 = .ok (.getfield 9, 3) := by decide +kernel
theorem dX3_liked_49 : decode cX3_liked 49 = .ok (.sipush 160, 3) := by decide +kernel
theorem dX3_liked_52 : decode cX3_liked 52 = .ok (.iload 4, 2) := by decide +kernel
theorem dX3_liked_54 : decode cX3_liked 54 = .ok (.iadd, 1) := by decide +kernel
theorem dX3_liked_55 : decode cX3_liked 55 = .ok (.iaload, 1) := by decide +kernel
theorem dX3_liked_56 : decode cX3_liked 56 = .ok (.aload_n 0, 1) := by decide +kernel
theorem dX3_liked_57 : decode cX3_liked 57 = .ok (.getfield 9, 3) := by decide +kernel
theorem dX3_liked_60 : decode cX3_liked 60 = .ok (.sipush 160, 3) := by decide +kernel
theorem dX3_liked_63 : decode cX3_liked 63 = .ok (.iload_n 2, 1) := by decide +kernel
theorem dX3_liked_64 : decode cX3_liked 64 = .ok (.iadd, 1) := by decide +kernel
theorem dX3_liked_65 : decode cX3_liked 65 = .ok (.iaload, 1) := by decide +kernel
theorem dX3_liked_66 : decode cX3_liked 66 = .ok (.if_icmp .lt 6, 3) := by decide +kernel
theorem dX3_liked_69 : decode cX3_liked 69 = .ok (.iload 4, 2) := by decide +kernel
theorem dX3_liked_71 : decode cX3_liked 71 = .ok (.istore_n 2, 1) := by decide +kernel
theorem dX3_liked_72 : decode cX3_liked 72 = .ok (.iinc 3 (-1), 3) := by decide +kernel
theorem dX3_liked_75 : decode cX3_liked 75 = .ok (.goto (-56), 3) := by decide +kernel
theorem dX3_liked_78 : decode cX3_liked 78 = .ok (.aload_n 0, 1) := by decide +kernel
theorem dX3_liked_79 : decode cX3_liked 79 = .ok (.iload_n 2, 1) := by decide +kernel
theorem dX3_liked_80 : decode cX3_liked 80 = .ok (.invokevirtual 130, 3) := by decide +kernel
theorem dX3_liked_83 : decode cX3_liked 83 = .ok (.ireturn, 1) := by decide +kernel
set_option maxRecDepth 20000 in
theorem ggX3_favourite_X3_isRow : GoodIn wsX3_favourite wsX3_isRow := goodIn_r _ [5] (by decide +kernel) (by decide +kernel)
set_option maxRecDepth 20000 in
theorem gX3_favourite_X3_isRow : GoodIn wsX3_favourite (va_wsS RX3 88 yX3_isRow wsX3_isRow) := goodIn_app (goodIn_of _ (by decide +kernel)) ggX3_favourite_X3_isRow
set_option maxRecDepth 20000 in
theorem ggX3_favourite_X3_liked : GoodIn wsX3_favourite wsX3_liked := goodIn_r _ [9, 10, 11, 12, 13, 4, 14, 15, 16, 17, 18, 19, 20, 21, 22, 27, 28, 29, 30, 31, 32] (by decide +kernel) (by decide +kernel)
set_option maxRecDepth 20000 in
theorem gX3_favourite_X3_liked : GoodIn wsX3_favourite (wsV RX3 142 RX3 yX3_liked wsX3_liked) := goodIn_app (goodIn_of _ (by decide +kernel)) ggX3_favourite_X3_liked
set_option maxRecDepth 20000 in
theorem ggX3_favourite_X3_no : GoodIn wsX3_favourite wsX3_no := goodIn_r _ [26, 1, 27, 28, 29, 30, 31, 32] (by decide +kernel) (by decide +kernel)
set_option maxRecDepth 20000 in
theorem gX3_favourite_X3_no : GoodIn wsX3_favourite (wsV RX3 92 RX3 yX3_no wsX3_no) := goodIn_app (goodIn_of _ (by decide +kernel)) ggX3_favourite_X3_no
theorem dX3_favourite_0 : decode cX3_favourite 0 = .ok (.aload_n 0, 1) := by decide +kernel
theorem dX3_favourite_1 : decode cX3_favourite 1 = .ok (.iconst 0, 1) := by decide +kernel
theorem dX3_favourite_2 : decode cX3_favourite 2 = .ok (.putfield 16, 3) := by decide +kernel
theorem dX3_favourite_5 : decode cX3_favourite 5 = .ok (.iload_n 1, 1) := by decide +kernel
theorem dX3_favourite_6 : decode cX3_favourite 6 = .ok (.invokestatic 88, 3) := by decide +kernel
theorem dX3_favourite_9 : decode cX3_favourite 9 = .ok (.ifCond .eq 11, 3) := by decide +kernel
theorem dX3_favourite_12 : decode cX3_favourite 12 = .ok (.aload_n 0, 1) := by decide +kernel
theorem dX3_favourite_13 : decode cX3_favourite 13 = .ok (.iload_n 1, 1) := by decide +kernel
theorem dX3_favourite_14 : decode cX3_favourite 14 = .ok (.invokevirtual 142, 3) := by decide +kernel
theorem dX3_favourite_17 : decode cX3_favourite 17 = .ok (.goto 8, 3) := by decide +kernel
theorem dX3_favourite_20 : decode cX3_favourite 20 = .ok (.aload_n 0, 1) := by decide +kernel
theorem dX3_favourite_21 : decode cX3_favourite 21 = .ok (.iconst 1, 1) := by decide +kernel
theorem dX3_favourite_22 : decode cX3_favourite 22 = .ok (.invokevirtual 92, 3) := by decide +kernel
theorem dX3_favourite_25 : decode cX3_favourite 25 = .ok (.ireturn, 1) := by decide +kernel
set_option maxRecDepth 20000 in
theorem ggX3_meet_X3_asked : GoodIn wsX3_meet wsX3_asked := goodIn_r _ [6, 7, 8, 9, 5, 10, 11, 12, 13, 14, 15, 16, 17, 18, 1, 23, 24, 25, 26, 27, 28] (by decide +kernel) (by decide +kernel)
set_option maxRecDepth 20000 in
theorem gX3_meet_X3_asked : GoodIn wsX3_meet (wsV RX3 139 RX3 yX3_asked wsX3_asked) := goodIn_app (goodIn_of _ (by decide +kernel)) ggX3_meet_X3_asked
set_option maxRecDepth 20000 in
theorem ggX3_meet_X3_deep : GoodIn wsX3_meet wsX3_deep := goodIn_r _ [22, 1, 23, 24, 25, 26, 27, 28] (by decide +kernel) (by decide +kernel)
set_option maxRecDepth 20000 in
theorem gX3_meet_X3_deep : GoodIn wsX3_meet (wsV RX3 81 RX3 yX3_deep wsX3_deep) := goodIn_app (goodIn_of _ (by decide +kernel)) ggX3_meet_X3_deep
theorem dX3_meet_0 : decode cX3_meet 0 = .ok (.aload_n 0, 1) := by decide +kernel
theorem dX3_meet_1 : decode cX3_meet 1 = .ok (.iload_n 1, 1) := by decide +kernel
theorem dX3_meet_2 : decode cX3_meet 2 = .ok (.iload_n 2, 1) := by decide +kernel
theorem dX3_meet_3 : decode cX3_meet 3 = .ok (.invokevirtual 139, 3) := by decide +kernel
theorem dX3_meet_6 : decode cX3_meet 6 = .ok (.istore 4, 2) := by decide +kernel
theorem dX3_meet_8 : decode cX3_meet 8 = .ok (.iload 4, 2) := by decide +kernel
theorem dX3_meet_10 : decode cX3_meet 10 = .ok (.iconst (-1), 1) := by decide +kernel
theorem dX3_meet_11 : decode cX3_meet 11 = .ok (.if_icmp .ne 7, 3) := by decide +kernel
theorem dX3_meet_14 : decode cX3_meet 14 = .ok (.iconst (-1), 1) := by decide +kernel
theorem dX3_meet_15 : decode cX3_meet 15 = .ok (.goto 9, 3) := by decide +kernel
theorem dX3_meet_18 : decode cX3_meet 18 = .ok (.aload_n 0, 1) := by decide +kernel
theorem dX3_meet_19 : decode cX3_meet 19 = .ok (.iload_n 1, 1) := by decide +kernel
theorem dX3_meet_20 : decode cX3_meet 20 = .ok (.iload_n 3, 1) := by decide +kernel
theorem dX3_meet_21 : decode cX3_meet 21 = .ok (.invokevirtual 139, 3) := by decide +kernel
theorem dX3_meet_24 : decode cX3_meet 24 = .ok (.istore 5, 2) := by decide +kernel
theorem dX3_meet_26 : decode cX3_meet 26 = .ok (.iload 5, 2) := by decide +kernel
theorem dX3_meet_28 : decode cX3_meet 28 = .ok (.iconst (-1), 1) := by decide +kernel
theorem dX3_meet_29 : decode cX3_meet 29 = .ok (.if_icmp .ne 5, 3) := by decide +kernel
theorem dX3_meet_32 : decode cX3_meet 32 = .ok (.iconst 0, 1) := by decide +kernel
theorem dX3_meet_33 : decode cX3_meet 33 = .ok (.ireturn, 1) := by decide +kernel
theorem dX3_meet_34 : decode cX3_meet 34 = .ok (.iload 4, 2) := by decide +kernel
theorem dX3_meet_36 : decode cX3_meet 36 = .ok (.iload 5, 2) := by decide +kernel
theorem dX3_meet_38 : decode cX3_meet 38 = .ok (.if_icmp .eq 48, 3) := by decide +kernel
theorem dX3_meet_41 : decode cX3_meet 41 = .ok (.aload_n 0, 1) := by decide +kernel
theorem dX3_meet_42 : decode cX3_meet 42 = .ok (.iload 4, 2) := by decide +kernel
theorem dX3_meet_44 : decode cX3_meet 44 = .ok (.invokevirtual 81, 3) := by decide +kernel
theorem dX3_meet_47 : decode cX3_meet 47 = .ok (.aload_n 0, 1) := by decide +kernel
theorem dX3_meet_48 : decode cX3_meet 48 = .ok (.iload 5, 2) := by decide +kernel
theorem dX3_meet_50 : decode cX3_meet 50 = .ok (.invokevirtual 81, 3) := by decide +kernel
theorem dX3_meet_53 : decode cX3_meet 53 = .ok (.if_icmp .lt 18, 3) := by decide +kernel
theorem dX3_meet_56 : decode cX3_meet 56 = .ok (.aload_n 0, 1) := by decide +kernel
theorem dX3_meet_57 : decode cX3_meet 57 = .ok (.getfield 9, 3) := by decide +kernel
theorem dX3_meet_60 : decode cX3_meet 60 = .ok (.bipush 120, 2) := by decide +kernel
theorem dX3_meet_62 : decode cX3_meet 62 = .ok (.iload 4, 2) := by decide +kernel
theorem dX3_meet_64 : decode cX3_meet 64 = .ok (.iadd, 1) := by decide +kernel
theorem dX3_meet_65 : decode cX3_meet 65 = .ok (.iaload, 1) := by decide +kernel
theorem dX3_meet_66 : decode cX3_meet 66 = .ok (.istore 4, 2) := by decide +kernel
theorem dX3_meet_68 : decode cX3_meet 68 = .ok (.goto (-34), 3) := by decide +kernel
theorem dX3_meet_71 : decode cX3_meet 71 = .ok (.aload_n 0, 1) := by decide +kernel
theorem dX3_meet_72 : decode cX3_meet 72 = .ok (.getfield 9, 3) := by decide +kernel
theorem dX3_meet_75 : decode cX3_meet 75 = .ok (.bipush 120, 2) := by decide +kernel
theorem dX3_meet_77 : decode cX3_meet 77 = .ok (.iload 5, 2) := by decide +kernel
theorem dX3_meet_79 : decode cX3_meet 79 = .ok (.iadd, 1) := by decide +kernel
theorem dX3_meet_80 : decode cX3_meet 80 = .ok (.iaload, 1) := by decide +kernel
theorem dX3_meet_81 : decode cX3_meet 81 = .ok (.istore 5, 2) := by decide +kernel
theorem dX3_meet_83 : decode cX3_meet 83 = .ok (.goto (-49), 3) := by decide +kernel
theorem dX3_meet_86 : decode cX3_meet 86 = .ok (.aload_n 0, 1) := by decide +kernel
theorem dX3_meet_87 : decode cX3_meet 87 = .ok (.getfield 9, 3) := by decide +kernel
theorem dX3_meet_90 : decode cX3_meet 90 = .ok (.iconst 0, 1) := by decide +kernel
theorem dX3_meet_91 : decode cX3_meet 91 = .ok (.iload 4, 2) := by decide +kernel
theorem dX3_meet_93 : decode cX3_meet 93 = .ok (.iadd, 1) := by decide +kernel
theorem dX3_meet_94 : decode cX3_meet 94 = .ok (.iaload, 1) := by decide +kernel
theorem dX3_meet_95 : decode cX3_meet 95 = .ok (.ireturn, 1) := by decide +kernel
set_option maxRecDepth 20000 in
theorem ggX3_depthBehind_X3_asked : GoodIn wsX3_depthBehind wsX3_asked := goodIn_r _ [5, 6, 7, 8, 4, 9, 10, 11, 12, 13, 14, 15, 16, 17, 18, 57, 58, 59, 60, 61, 62] (by decide +kernel) (by decide +kernel)
set_option maxRecDepth 20000 in
theorem gX3_depthBehind_X3_asked : GoodIn wsX3_depthBehind (wsV RX3 139 RX3 yX3_asked wsX3_asked) := goodIn_app (goodIn_of _ (by decide +kernel)) ggX3_depthBehind_X3_asked
set_option maxRecDepth 20000 in
theorem ggX3_depthBehind_X3_keep : GoodIn wsX3_depthBehind wsX3_keep := goodIn_r _ [22, 18, 23, 24, 25, 26, 27, 28, 29, 57, 58, 59, 60, 61, 62] (by decide +kernel) (by decide +kernel)
set_option maxRecDepth 20000 in
theorem gX3_depthBehind_X3_keep : GoodIn wsX3_depthBehind (wsV RX3 145 RX3 yX3_keep wsX3_keep) := goodIn_app (goodIn_of _ (by decide +kernel)) ggX3_depthBehind_X3_keep
set_option maxRecDepth 20000 in
theorem ggX3_depthBehind_X3_raise : GoodIn wsX3_depthBehind wsX3_raise := goodIn_r _ [33, 18, 34, 35, 36, 4, 37, 38, 39, 40, 41, 28, 42, 43, 44, 45, 46, 47, 48, 57, 58, 59, 60, 61, 62] (by decide +kernel) (by decide +kernel)
set_option maxRecDepth 20000 in
theorem gX3_depthBehind_X3_raise : GoodIn wsX3_depthBehind (wsV RX3 47 RX3 yX3_raise wsX3_raise) := goodIn_app (goodIn_of _ (by decide +kernel)) ggX3_depthBehind_X3_raise
set_option maxRecDepth 20000 in
theorem ggX3_depthBehind_X3_deep : GoodIn wsX3_depthBehind wsX3_deep := goodIn_r _ [52, 18, 57, 58, 59, 60, 61, 62] (by decide +kernel) (by decide +kernel)
set_option maxRecDepth 20000 in
theorem gX3_depthBehind_X3_deep : GoodIn wsX3_depthBehind (wsV RX3 81 RX3 yX3_deep wsX3_deep) := goodIn_app (goodIn_of _ (by decide +kernel)) ggX3_depthBehind_X3_deep
set_option maxRecDepth 20000 in
theorem ggX3_depthBehind_X3_bringBack : GoodIn wsX3_depthBehind wsX3_bringBack := goodIn_r _ [56, 23, 18, 24, 25, 26, 27, 29, 28, 57, 58, 59, 60, 61, 62] (by decide +kernel) (by decide +kernel)
set_option maxRecDepth 20000 in
theorem gX3_depthBehind_X3_bringBack : GoodIn wsX3_depthBehind (wsV RX3 148 RX3 yX3_bringBack wsX3_bringBack) := goodIn_app (goodIn_of _ (by decide +kernel)) ggX3_depthBehind_X3_bringBack
theorem dX3_depthBehind_0 : decode cX3_depthBehind 0 = .ok (.aload_n 0, 1) := by decide +kernel
theorem dX3_depthBehind_1 : decode cX3_depthBehind 1 = .ok (.iload_n 1, 1) := by decide +kernel
theorem dX3_depthBehind_2 : decode cX3_depthBehind 2 = .ok (.iload_n 2, 1) := by decide +kernel
theorem dX3_depthBehind_3 : decode cX3_depthBehind 3 = .ok (.invokevirtual 139, 3) := by decide +kernel
theorem dX3_depthBehind_6 : decode cX3_depthBehind 6 = .ok (.istore 4, 2) := by decide +kernel
theorem dX3_depthBehind_8 : decode cX3_depthBehind 8 = .ok (.iload 4, 2) := by decide +kernel
theorem dX3_depthBehind_10 : decode cX3_depthBehind 10 = .ok (.iconst (-1), 1) := by decide +kernel
theorem dX3_depthBehind_11 : decode cX3_depthBehind 11 = .ok (.if_icmp .ne 7, 3) := by decide +kernel
theorem dX3_depthBehind_14 : decode cX3_depthBehind 14 = .ok (.iconst (-1), 1) := by decide +kernel
theorem dX3_depthBehind_15 : decode cX3_depthBehind 15 = .ok (.goto 9, 3) := by decide +kernel
theorem dX3_depthBehind_18 : decode cX3_depthBehind 18 = .ok (.aload_n 0, 1) := by decide +kernel
theorem dX3_depthBehind_19 : decode cX3_depthBehind 19 = .ok (.iload_n 1, 1) := by decide +kernel
theorem dX3_depthBehind_20 : decode cX3_depthBehind 20 = .ok (.iload_n 3, 1) := by decide +kernel
theorem dX3_depthBehind_21 : decode cX3_depthBehind 21 = .ok (.invokevirtual 139, 3) := by decide +kernel
theorem dX3_depthBehind_24 : decode cX3_depthBehind 24 = .ok (.istore 5, 2) := by decide +kernel
theorem dX3_depthBehind_26 : decode cX3_depthBehind 26 = .ok (.iload 5, 2) := by decide +kernel
theorem dX3_depthBehind_28 : decode cX3_depthBehind 28 = .ok (.iconst (-1), 1) := by decide +kernel
theorem dX3_depthBehind_29 : decode cX3_depthBehind 29 = .ok (.if_icmp .ne 5, 3) := by decide +kernel
theorem dX3_depthBehind_32 : decode cX3_depthBehind 32 = .ok (.iconst 0, 1) := by decide +kernel
theorem dX3_depthBehind_33 : decode cX3_depthBehind 33 = .ok (.ireturn, 1) := by decide +kernel
theorem dX3_depthBehind_34 : decode cX3_depthBehind 34 = .ok (.aload_n 0, 1) := by decide +kernel
theorem dX3_depthBehind_35 : decode cX3_depthBehind 35 = .ok (.invokevirtual 145, 3) := by decide +kernel
theorem dX3_depthBehind_38 : decode cX3_depthBehind 38 = .ok (.aload_n 0, 1) := by decide +kernel
theorem dX3_depthBehind_39 : decode cX3_depthBehind 39 = .ok (.iload 4, 2) := by decide +kernel
theorem dX3_depthBehind_41 : decode cX3_depthBehind 41 = .ok (.invokevirtual 47, 3) := by decide +kernel
theorem dX3_depthBehind_44 : decode cX3_depthBehind 44 = .ok (.aload_n 0, 1) := by decide +kernel
theorem dX3_depthBehind_45 : decode cX3_depthBehind 45 = .ok (.iload 5, 2) := by decide +kernel
theorem dX3_depthBehind_47 : decode cX3_depthBehind 47 = .ok (.invokevirtual 81, 3) := by decide +kernel
theorem dX3_depthBehind_50 : decode cX3_depthBehind 50 = .ok (.istore 6, 2) := by decide +kernel
theorem dX3_depthBehind_52 : decode cX3_depthBehind 52 = .ok (.aload_n 0, 1) := by decide +kernel
theorem dX3_depthBehind_53 : decode cX3_depthBehind 53 = .ok (.invokevirtual 148, 3) := by decide +kernel
theorem dX3_depthBehind_56 : decode cX3_depthBehind 56 = .ok (.iload 6, 2) := by decide +kernel
theorem dX3_depthBehind_58 : decode cX3_depthBehind 58 = .ok (.ireturn, 1) := by decide +kernel
set_option maxRecDepth 20000 in
theorem ggX3_heightBehind_X3_asked : GoodIn wsX3_heightBehind wsX3_asked := goodIn_r _ [5, 6, 7, 8, 4, 9, 10, 11, 12, 13, 14, 15, 16, 17, 18, 61, 62, 63, 64, 65, 66] (by decide +kernel) (by decide +kernel)
set_option maxRecDepth 20000 in
theorem gX3_heightBehind_X3_asked : GoodIn wsX3_heightBehind (wsV RX3 139 RX3 yX3_asked wsX3_asked) := goodIn_app (goodIn_of _ (by decide +kernel)) ggX3_heightBehind_X3_asked
set_option maxRecDepth 20000 in
theorem ggX3_heightBehind_X3_keep : GoodIn wsX3_heightBehind wsX3_keep := goodIn_r _ [22, 18, 23, 24, 25, 26, 27, 28, 29, 61, 62, 63, 64, 65, 66] (by decide +kernel) (by decide +kernel)
set_option maxRecDepth 20000 in
theorem gX3_heightBehind_X3_keep : GoodIn wsX3_heightBehind (wsV RX3 145 RX3 yX3_keep wsX3_keep) := goodIn_app (goodIn_of _ (by decide +kernel)) ggX3_heightBehind_X3_keep
set_option maxRecDepth 20000 in
theorem ggX3_heightBehind_X3_raise : GoodIn wsX3_heightBehind wsX3_raise := goodIn_r _ [33, 18, 34, 35, 36, 4, 37, 38, 39, 40, 41, 28, 42, 43, 44, 45, 46, 47, 48, 61, 62, 63, 64, 65, 66] (by decide +kernel) (by decide +kernel)
set_option maxRecDepth 20000 in
theorem gX3_heightBehind_X3_raise : GoodIn wsX3_heightBehind (wsV RX3 47 RX3 yX3_raise wsX3_raise) := goodIn_app (goodIn_of _ (by decide +kernel)) ggX3_heightBehind_X3_raise
set_option maxRecDepth 20000 in
theorem ggX3_heightBehind_X3_high : GoodIn wsX3_heightBehind wsX3_high := goodIn_r _ [52, 18, 53, 54, 55, 56, 49, 50, 51, 4, 61, 62, 63, 64, 65, 66] (by decide +kernel) (by decide +kernel)
set_option maxRecDepth 20000 in
theorem gX3_heightBehind_X3_high : GoodIn wsX3_heightBehind (wsV RX3 53 RX3 yX3_high wsX3_high) := goodIn_app (goodIn_of _ (by decide +kernel)) ggX3_heightBehind_X3_high
set_option maxRecDepth 20000 in
theorem ggX3_heightBehind_X3_bringBack : GoodIn wsX3_heightBehind wsX3_bringBack := goodIn_r _ [60, 23, 18, 24, 25, 26, 27, 29, 28, 61, 62, 63, 64, 65, 66] (by decide +kernel) (by decide +kernel)
set_option maxRecDepth 20000 in
theorem gX3_heightBehind_X3_bringBack : GoodIn wsX3_heightBehind (wsV RX3 148 RX3 yX3_bringBack wsX3_bringBack) := goodIn_app (goodIn_of _ (by decide +kernel)) ggX3_heightBehind_X3_bringBack
theorem dX3_heightBehind_0 : decode cX3_heightBehind 0 = .ok (.aload_n 0, 1) := by decide +kernel
theorem dX3_heightBehind_1 : decode cX3_heightBehind 1 = .ok (.iload_n 1, 1) := by decide +kernel
theorem dX3_heightBehind_2 : decode cX3_heightBehind 2 = .ok (.iload_n 2, 1) := by decide +kernel
theorem dX3_heightBehind_3 : decode cX3_heightBehind 3 = .ok (.invokevirtual 139, 3) := by decide +kernel
theorem dX3_heightBehind_6 : decode cX3_heightBehind 6 = .ok (.istore_n 3, 1) := by decide +kernel
theorem dX3_heightBehind_7 : decode cX3_heightBehind 7 = .ok (.iload_n 3, 1) := by decide +kernel
theorem dX3_heightBehind_8 : decode cX3_heightBehind 8 = .ok (.iconst (-1), 1) := by decide +kernel
theorem dX3_heightBehind_9 : decode cX3_heightBehind 9 = .ok (.if_icmp .ne 5, 3) := by decide +kernel
theorem dX3_heightBehind_12 : decode cX3_heightBehind 12 = .ok (.iconst 0, 1) := by decide +kernel
theorem dX3_heightBehind_13 : decode cX3_heightBehind 13 = .ok (.ireturn, 1) := by decide +kernel
theorem dX3_heightBehind_14 : decode cX3_heightBehind 14 = .ok (.aload_n 0, 1) := by decide +kernel
theorem dX3_heightBehind_15 : decode cX3_heightBehind 15 = .ok (.invokevirtual 145, 3) := by decide +kernel
theorem dX3_heightBehind_18 : decode cX3_heightBehind 18 = .ok (.aload_n 0, 1) := by decide +kernel
theorem dX3_heightBehind_19 : decode cX3_heightBehind 19 = .ok (.iload_n 3, 1) := by decide +kernel
theorem dX3_heightBehind_20 : decode cX3_heightBehind 20 = .ok (.invokevirtual 47, 3) := by decide +kernel
theorem dX3_heightBehind_23 : decode cX3_heightBehind 23 = .ok (.aload_n 0, 1) := by decide +kernel
theorem dX3_heightBehind_24 : decode cX3_heightBehind 24 = .ok (.iload_n 3, 1) := by decide +kernel
theorem dX3_heightBehind_25 : decode cX3_heightBehind 25 = .ok (.invokevirtual 53, 3) := by decide +kernel
theorem dX3_heightBehind_28 : decode cX3_heightBehind 28 = .ok (.istore 4, 2) := by decide +kernel
theorem dX3_heightBehind_30 : decode cX3_heightBehind 30 = .ok (.aload_n 0, 1) := by decide +kernel
theorem dX3_heightBehind_31 : decode cX3_heightBehind 31 = .ok (.invokevirtual 148, 3) := by decide +kernel
theorem dX3_heightBehind_34 : decode cX3_heightBehind 34 = .ok (.iload 4, 2) := by decide +kernel
theorem dX3_heightBehind_36 : decode cX3_heightBehind 36 = .ok (.ireturn, 1) := by decide +kernel
set_option maxRecDepth 20000 in
theorem ggX3_best_X3_count : GoodIn wsX3_best wsX3_count := goodIn_r _ [6, 1, 2, 3, 4, 5, 53, 54, 55, 56, 57, 58] (by decide +kernel) (by decide +kernel)
set_option maxRecDepth 20000 in
theorem gX3_best_X3_count : GoodIn wsX3_best (wsV RX3 50 RX3 yX3_count wsX3_count) := goodIn_app (goodIn_of _ (by decide +kernel)) ggX3_best_X3_count
set_option maxRecDepth 20000 in
theorem ggX3_best_X3_nth : GoodIn wsX3_best wsX3_nth := goodIn_r _ [10, 1, 2, 3, 4, 5, 6, 7, 8, 9, 53, 54, 55, 56, 57, 58] (by decide +kernel) (by decide +kernel)
set_option maxRecDepth 20000 in
theorem gX3_best_X3_nth : GoodIn wsX3_best (wsV RX3 71 RX3 yX3_nth wsX3_nth) := goodIn_app (goodIn_of _ (by decide +kernel)) ggX3_best_X3_nth
set_option maxRecDepth 20000 in
theorem ggX3_best_X3_keep : GoodIn wsX3_best wsX3_keep := goodIn_r _ [14, 1, 15, 16, 17, 18, 19, 20, 21, 53, 54, 55, 56, 57, 58] (by decide +kernel) (by decide +kernel)
set_option maxRecDepth 20000 in
theorem gX3_best_X3_keep : GoodIn wsX3_best (wsV RX3 145 RX3 yX3_keep wsX3_keep) := goodIn_app (goodIn_of _ (by decide +kernel)) ggX3_best_X3_keep
set_option maxRecDepth 20000 in
theorem ggX3_best_X3_raise : GoodIn wsX3_best wsX3_raise := goodIn_r _ [25, 1, 26, 27, 28, 5, 29, 30, 31, 32, 33, 20, 34, 35, 36, 37, 38, 39, 40, 53, 54, 55, 56, 57, 58] (by decide +kernel) (by decide +kernel)
set_option maxRecDepth 20000 in
theorem gX3_best_X3_raise : GoodIn wsX3_best (wsV RX3 47 RX3 yX3_raise wsX3_raise) := goodIn_app (goodIn_of _ (by decide +kernel)) ggX3_best_X3_raise
set_option maxRecDepth 20000 in
theorem ggX3_best_X3_depthsOf : GoodIn wsX3_best wsX3_depthsOf := goodIn_r _ [44, 1, 41, 42, 43, 5, 53, 54, 55, 56, 57, 58] (by decide +kernel) (by decide +kernel)
set_option maxRecDepth 20000 in
theorem gX3_best_X3_depthsOf : GoodIn wsX3_best (wsV RX3 62 RX3 yX3_depthsOf wsX3_depthsOf) := goodIn_app (goodIn_of _ (by decide +kernel)) ggX3_best_X3_depthsOf
set_option maxRecDepth 20000 in
theorem ggX3_best_X3_bringBack : GoodIn wsX3_best wsX3_bringBack := goodIn_r _ [48, 15, 1, 16, 17, 18, 19, 21, 20, 53, 54, 55, 56, 57, 58] (by decide +kernel) (by decide +kernel)
set_option maxRecDepth 20000 in
theorem gX3_best_X3_bringBack : GoodIn wsX3_best (wsV RX3 148 RX3 yX3_bringBack wsX3_bringBack) := goodIn_app (goodIn_of _ (by decide +kernel)) ggX3_best_X3_bringBack
set_option maxRecDepth 20000 in
theorem ggX3_best_X3_sizeAt : GoodIn wsX3_best wsX3_sizeAt := goodIn_r _ [52, 1, 53, 54, 55, 56, 57, 58] (by decide +kernel) (by decide +kernel)
set_option maxRecDepth 20000 in
theorem gX3_best_X3_sizeAt : GoodIn wsX3_best (wsV RX3 130 RX3 yX3_sizeAt wsX3_sizeAt) := goodIn_app (goodIn_of _ (by decide +kernel)) ggX3_best_X3_sizeAt
theorem dX3_best_0 : decode cX3_best 0 = .ok (.iconst (-1), 1) := by decide +kernel
theorem dX3_best_1 : decode cX3_best 1 = .ok (.istore_n 2, 1) := by decide +kernel
theorem dX3_best_2 : decode cX3_best 2 = .ok (.iconst 0, 1) := by decide +kernel
theorem dX3_best_3 : decode cX3_best 3 = .ok (.istore_n 3, 1) := by decide +kernel
theorem dX3_best_4 : decode cX3_best 4 = .ok (.iconst 0, 1) := by decide +kernel
theorem dX3_best_5 : decode cX3_best 5 = .ok (.istore 4, 2) := by decide +kernel
theorem dX3_best_7 : decode cX3_best 7 = .ok (.iload 4, 2) := by decide +kernel
theorem dX3_best_9 : decode cX3_best 9 = .ok (.aload_n 0, 1) := by decide +kernel
theorem dX3_best_10 : decode cX3_best 10 = .ok (.aload_n 0, 1) := by decide +kernel
theorem dX3_best_11 : decode cX3_best 11 = .ok (.getfield 9, 3) := by decide +kernel
theorem dX3_best_14 : decode cX3_best 14 = .ok (.sipush 200, 3) := by decide +kernel
theorem dX3_best_17 : decode cX3_best 17 = .ok (.iload_n 1, 1) := by decide +kernel
theorem dX3_best_18 : decode cX3_best 18 = .ok (.iadd, 1) := by decide +kernel
theorem dX3_best_19 : decode cX3_best 19 = .ok (.iaload, 1) := by decide +kernel
theorem dX3_best_20 : decode cX3_best 20 = .ok (.invokevirtual 50, 3) := by decide +kernel
theorem dX3_best_23 : decode cX3_best 23 = .ok (.if_icmp .ge 70, 3) := by decide +kernel
theorem dX3_best_26 : decode cX3_best 26 = .ok (.aload_n 0, 1) := by decide +kernel
theorem dX3_best_27 : decode cX3_best 27 = .ok (.aload_n 0, 1) := by decide +kernel
theorem dX3_best_28 : decode cX3_best 28 = .ok (.getfield 9, 3) := by decide +kernel
theorem dX3_best_31 : decode cX3_best 31 = .ok (.sipush 200, 3) := by decide +kernel
theorem dX3_best_34 : decode cX3_best 34 = .ok (.iload_n 1, 1) := by decide +kernel
theorem dX3_best_35 : decode cX3_best 35 = .ok (.iadd, 1) := by decide +kernel
theorem dX3_best_36 : decode cX3_best 36 = .ok (.iaload, 1) := by decide +kernel
theorem dX3_best_37 : decode cX3_best 37 = .ok (.iload 4, 2) := by decide +kernel
theorem dX3_best_39 : decode cX3_best 39 = .ok (.invokevirtual 71, 3) := by decide +kernel
theorem dX3_best_42 : decode cX3_best 42 = .ok (.istore 5, 2) := by decide +kernel
theorem dX3_best_44 : decode cX3_best 44 = .ok (.aload_n 0, 1) := by decide +kernel
theorem dX3_best_45 : decode cX3_best 45 = .ok (.invokevirtual 145, 3) := by decide +kernel
theorem dX3_best_48 : decode cX3_best 48 = .ok (.aload_n 0, 1) := by decide +kernel
theorem dX3_best_49 : decode cX3_best 49 = .ok (.iload 5, 2) := by decide +kernel
theorem dX3_best_51 : decode cX3_best 51 = .ok (.invokevirtual 47, 3) := by decide +kernel
theorem dX3_best_54 : decode cX3_best 54 = .ok (.aload_n 0, 1) := by decide +kernel
theorem dX3_best_55 : decode cX3_best 55 = .ok (.iload 5, 2) := by decide +kernel
theorem dX3_best_57 : decode cX3_best 57 = .ok (.iconst 0, 1) := by decide +kernel
theorem dX3_best_58 : decode cX3_best 58 = .ok (.invokevirtual 62, 3) := by decide +kernel
theorem dX3_best_61 : decode cX3_best 61 = .ok (.istore 6, 2) := by decide +kernel
theorem dX3_best_63 : decode cX3_best 63 = .ok (.aload_n 0, 1) := by decide +kernel
theorem dX3_best_64 : decode cX3_best 64 = .ok (.invokevirtual 148, 3) := by decide +kernel
theorem dX3_best_67 : decode cX3_best 67 = .ok (.iload_n 2, 1) := by decide +kernel
theorem dX3_best_68 : decode cX3_best 68 = .ok (.iconst (-1), 1) := by decide +kernel
theorem dX3_best_69 : decode cX3_best 69 = .ok (.if_icmp .eq 12, 3) := by decide +kernel
theorem dX3_best_72 : decode cX3_best 72 = .ok (.iload 6, 2) := by decide +kernel
theorem dX3_best_74 : decode cX3_best 74 = .ok (.iload_n 3, 1) := by decide +kernel
theorem dX3_best_75 : decode cX3_best 75 = .ok (.if_icmp .lt 6, 3) := by decide +kernel
theorem dX3_best_78 : decode cX3_best 78 = .ok (.goto 9, 3) := by decide +kernel
theorem dX3_best_81 : decode cX3_best 81 = .ok (.iload 5, 2) := by decide +kernel
theorem dX3_best_83 : decode cX3_best 83 = .ok (.istore_n 2, 1) := by decide +kernel
theorem dX3_best_84 : decode cX3_best 84 = .ok (.iload 6, 2) := by decide +kernel
theorem dX3_best_86 : decode cX3_best 86 = .ok (.istore_n 3, 1) := by decide +kernel
theorem dX3_best_87 : decode cX3_best 87 = .ok (.iinc 4 1, 3) := by decide +kernel
theorem dX3_best_90 : decode cX3_best 90 = .ok (.goto (-83), 3) := by decide +kernel
theorem dX3_best_93 : decode cX3_best 93 = .ok (.aload_n 0, 1) := by decide +kernel
theorem dX3_best_94 : decode cX3_best 94 = .ok (.iload_n 2, 1) := by decide +kernel
theorem dX3_best_95 : decode cX3_best 95 = .ok (.invokevirtual 130, 3) := by decide +kernel
theorem dX3_best_98 : decode cX3_best 98 = .ok (.ireturn, 1) := by decide +kernel
set_option maxRecDepth 20000 in
theorem ggX3_bestToEat_X3_isRow : GoodIn wsX3_bestToEat wsX3_isRow := goodIn_r _ [5] (by decide +kernel) (by decide +kernel)
set_option maxRecDepth 20000 in
theorem gX3_bestToEat_X3_isRow : GoodIn wsX3_bestToEat (va_wsS RX3 88 yX3_isRow wsX3_isRow) := goodIn_app (goodIn_of _ (by decide +kernel)) ggX3_bestToEat_X3_isRow
set_option maxRecDepth 20000 in
theorem ggX3_bestToEat_X3_best : GoodIn wsX3_bestToEat wsX3_best := goodIn_r _ [9, 10, 11, 12, 13, 4, 14, 15, 16, 17, 18, 19, 20, 21, 22, 23, 24, 25, 26, 27, 28, 29, 30, 31, 32, 33, 34, 35, 36, 37, 38, 39, 40, 41, 42, 43, 44, 45, 46, 47, 48, 49, 50, 51, 52, 53, 54, 55, 56, 57, 58, 59, 60, 65, 66, 67, 68, 69, 70] (by decide +kernel) (by decide +kernel)
set_option maxRecDepth 20000 in
theorem gX3_bestToEat_X3_best : GoodIn wsX3_bestToEat (wsV RX3 151 RX3 yX3_best wsX3_best) := goodIn_app (goodIn_of _ (by decide +kernel)) ggX3_bestToEat_X3_best
set_option maxRecDepth 20000 in
theorem ggX3_bestToEat_X3_no : GoodIn wsX3_bestToEat wsX3_no := goodIn_r _ [64, 1, 65, 66, 67, 68, 69, 70] (by decide +kernel) (by decide +kernel)
set_option maxRecDepth 20000 in
theorem gX3_bestToEat_X3_no : GoodIn wsX3_bestToEat (wsV RX3 92 RX3 yX3_no wsX3_no) := goodIn_app (goodIn_of _ (by decide +kernel)) ggX3_bestToEat_X3_no
theorem dX3_bestToEat_0 : decode cX3_bestToEat 0 = .ok (.aload_n 0, 1) := by decide +kernel
theorem dX3_bestToEat_1 : decode cX3_bestToEat 1 = .ok (.iconst 0, 1) := by decide +kernel
theorem dX3_bestToEat_2 : decode cX3_bestToEat 2 = .ok (.putfield 16, 3) := by decide +kernel
theorem dX3_bestToEat_5 : decode cX3_bestToEat 5 = .ok (.iload_n 1, 1) := by decide +kernel
theorem dX3_bestToEat_6 : decode cX3_bestToEat 6 = .ok (.invokestatic 88, 3) := by decide +kernel
theorem dX3_bestToEat_9 : decode cX3_bestToEat 9 = .ok (.ifCond .eq 11, 3) := by decide +kernel
theorem dX3_bestToEat_12 : decode cX3_bestToEat 12 = .ok (.aload_n 0, 1) := by decide +kernel
theorem dX3_bestToEat_13 : decode cX3_bestToEat 13 = .ok (.iload_n 1, 1) := by decide +kernel
theorem dX3_bestToEat_14 : decode cX3_bestToEat 14 = .ok (.invokevirtual 151, 3) := by decide +kernel
theorem dX3_bestToEat_17 : decode cX3_bestToEat 17 = .ok (.goto 8, 3) := by decide +kernel
theorem dX3_bestToEat_20 : decode cX3_bestToEat 20 = .ok (.aload_n 0, 1) := by decide +kernel
theorem dX3_bestToEat_21 : decode cX3_bestToEat 21 = .ok (.iconst 1, 1) := by decide +kernel
theorem dX3_bestToEat_22 : decode cX3_bestToEat 22 = .ok (.invokevirtual 92, 3) := by decide +kernel
theorem dX3_bestToEat_25 : decode cX3_bestToEat 25 = .ok (.ireturn, 1) := by decide +kernel
set_option maxRecDepth 20000 in
theorem ggX3_plantDepth_X3_isRow : GoodIn wsX3_plantDepth wsX3_isRow := goodIn_r _ [5] (by decide +kernel) (by decide +kernel)
set_option maxRecDepth 20000 in
theorem gX3_plantDepth_X3_isRow : GoodIn wsX3_plantDepth (va_wsS RX3 88 yX3_isRow wsX3_isRow) := goodIn_app (goodIn_of _ (by decide +kernel)) ggX3_plantDepth_X3_isRow
set_option maxRecDepth 20000 in
theorem ggX3_plantDepth_X3_no : GoodIn wsX3_plantDepth wsX3_no := goodIn_r _ [9, 1, 18, 19, 20, 21, 22, 23] (by decide +kernel) (by decide +kernel)
set_option maxRecDepth 20000 in
theorem gX3_plantDepth_X3_no : GoodIn wsX3_plantDepth (wsV RX3 92 RX3 yX3_no wsX3_no) := goodIn_app (goodIn_of _ (by decide +kernel)) ggX3_plantDepth_X3_no
set_option maxRecDepth 20000 in
theorem ggX3_plantDepth_X3_isSize : GoodIn wsX3_plantDepth wsX3_isSize := goodIn_r _ [12] (by decide +kernel) (by decide +kernel)
set_option maxRecDepth 20000 in
theorem gX3_plantDepth_X3_isSize : GoodIn wsX3_plantDepth (va_wsS RX3 95 yX3_isSize wsX3_isSize) := goodIn_app (goodIn_of _ (by decide +kernel)) ggX3_plantDepth_X3_isSize
set_option maxRecDepth 20000 in
theorem ggX3_plantDepth_X3_plantDeep : GoodIn wsX3_plantDepth wsX3_plantDeep := goodIn_r _ [16, 17, 18, 19, 20, 21, 22, 23] (by decide +kernel) (by decide +kernel)
set_option maxRecDepth 20000 in
theorem gX3_plantDepth_X3_plantDeep : GoodIn wsX3_plantDepth (wsV RX3 154 RX3 yX3_plantDeep wsX3_plantDeep) := goodIn_app (goodIn_of _ (by decide +kernel)) ggX3_plantDepth_X3_plantDeep
theorem dX3_plantDepth_0 : decode cX3_plantDepth 0 = .ok (.aload_n 0, 1) := by decide +kernel
theorem dX3_plantDepth_1 : decode cX3_plantDepth 1 = .ok (.iconst 0, 1) := by decide +kernel
theorem dX3_plantDepth_2 : decode cX3_plantDepth 2 = .ok (.putfield 16, 3) := by decide +kernel
theorem dX3_plantDepth_5 : decode cX3_plantDepth 5 = .ok (.iload_n 1, 1) := by decide +kernel
theorem dX3_plantDepth_6 : decode cX3_plantDepth 6 = .ok (.invokestatic 88, 3) := by decide +kernel
theorem dX3_plantDepth_9 : decode cX3_plantDepth 9 = .ok (.ifCond .ne 9, 3) := by decide +kernel
theorem dX3_plantDepth_12 : decode cX3_plantDepth 12 = .ok (.aload_n 0, 1) := by decide +kernel
theorem dX3_plantDepth_13 : decode cX3_plantDepth 13 = .ok (.iconst 1, 1) := by decide +kernel
theorem dX3_plantDepth_14 : decode cX3_plantDepth 14 = .ok (.invokevirtual 92, 3) := by decide +kernel
theorem dX3_plantDepth_17 : decode cX3_plantDepth 17 = .ok (.ireturn, 1) := by decide +kernel
theorem dX3_plantDepth_18 : decode cX3_plantDepth 18 = .ok (.iload_n 2, 1) := by decide +kernel
theorem dX3_plantDepth_19 : decode cX3_plantDepth 19 = .ok (.invokestatic 95, 3) := by decide +kernel
theorem dX3_plantDepth_22 : decode cX3_plantDepth 22 = .ok (.ifCond .eq 12, 3) := by decide +kernel
theorem dX3_plantDepth_25 : decode cX3_plantDepth 25 = .ok (.aload_n 0, 1) := by decide +kernel
theorem dX3_plantDepth_26 : decode cX3_plantDepth 26 = .ok (.iload_n 1, 1) := by decide +kernel
theorem dX3_plantDepth_27 : decode cX3_plantDepth 27 = .ok (.iload_n 2, 1) := by decide +kernel
theorem dX3_plantDepth_28 : decode cX3_plantDepth 28 = .ok (.invokevirtual 154, 3) := by decide +kernel
theorem dX3_plantDepth_31 : decode cX3_plantDepth 31 = .ok (.goto 8, 3) := by decide +kernel
theorem dX3_plantDepth_34 : decode cX3_plantDepth 34 = .ok (.aload_n 0, 1) := by decide +kernel
theorem dX3_plantDepth_35 : decode cX3_plantDepth 35 = .ok (.iconst 2, 1) := by decide +kernel
theorem dX3_plantDepth_36 : decode cX3_plantDepth 36 = .ok (.invokevirtual 92, 3) := by decide +kernel
theorem dX3_plantDepth_39 : decode cX3_plantDepth 39 = .ok (.ireturn, 1) := by decide +kernel
set_option maxRecDepth 20000 in
theorem ggX3_canJoin_X3_isRow : GoodIn wsX3_canJoin wsX3_isRow := goodIn_r _ [5] (by decide +kernel) (by decide +kernel)
set_option maxRecDepth 20000 in
theorem gX3_canJoin_X3_isRow : GoodIn wsX3_canJoin (va_wsS RX3 88 yX3_isRow wsX3_isRow) := goodIn_app (goodIn_of _ (by decide +kernel)) ggX3_canJoin_X3_isRow
set_option maxRecDepth 20000 in
theorem ggX3_canJoin_X3_fits : GoodIn wsX3_canJoin wsX3_fits := goodIn_r _ [9, 10, 11, 12, 13, 4, 14, 19, 20, 21, 22, 23, 24] (by decide +kernel) (by decide +kernel)
set_option maxRecDepth 20000 in
theorem gX3_canJoin_X3_fits : GoodIn wsX3_canJoin (wsV RX3 123 RX3 yX3_fits wsX3_fits) := goodIn_app (goodIn_of _ (by decide +kernel)) ggX3_canJoin_X3_fits
set_option maxRecDepth 20000 in
theorem ggX3_canJoin_X3_isNot : GoodIn wsX3_canJoin wsX3_isNot := goodIn_r _ [18, 1, 19, 20, 21, 22, 23, 24] (by decide +kernel) (by decide +kernel)
set_option maxRecDepth 20000 in
theorem gX3_canJoin_X3_isNot : GoodIn wsX3_canJoin (wsV RX3 136 RX3 yX3_isNot wsX3_isNot) := goodIn_app (goodIn_of _ (by decide +kernel)) ggX3_canJoin_X3_isNot
theorem dX3_canJoin_0 : decode cX3_canJoin 0 = .ok (.aload_n 0, 1) := by decide +kernel
theorem dX3_canJoin_1 : decode cX3_canJoin 1 = .ok (.iconst 0, 1) := by decide +kernel
theorem dX3_canJoin_2 : decode cX3_canJoin 2 = .ok (.putfield 16, 3) := by decide +kernel
theorem dX3_canJoin_5 : decode cX3_canJoin 5 = .ok (.iload_n 1, 1) := by decide +kernel
theorem dX3_canJoin_6 : decode cX3_canJoin 6 = .ok (.invokestatic 88, 3) := by decide +kernel
theorem dX3_canJoin_9 : decode cX3_canJoin 9 = .ok (.ifCond .eq 19, 3) := by decide +kernel
theorem dX3_canJoin_12 : decode cX3_canJoin 12 = .ok (.iload_n 2, 1) := by decide +kernel
theorem dX3_canJoin_13 : decode cX3_canJoin 13 = .ok (.invokestatic 88, 3) := by decide +kernel
theorem dX3_canJoin_16 : decode cX3_canJoin 16 = .ok (.ifCond .eq 12, 3) := by decide +kernel
theorem dX3_canJoin_19 : decode cX3_canJoin 19 = .ok (.aload_n 0, 1) := by decide +kernel
theorem dX3_canJoin_20 : decode cX3_canJoin 20 = .ok (.iload_n 1, 1) := by decide +kernel
theorem dX3_canJoin_21 : decode cX3_canJoin 21 = .ok (.iload_n 2, 1) := by decide +kernel
theorem dX3_canJoin_22 : decode cX3_canJoin 22 = .ok (.invokevirtual 123, 3) := by decide +kernel
theorem dX3_canJoin_25 : decode cX3_canJoin 25 = .ok (.goto 8, 3) := by decide +kernel
theorem dX3_canJoin_28 : decode cX3_canJoin 28 = .ok (.aload_n 0, 1) := by decide +kernel
theorem dX3_canJoin_29 : decode cX3_canJoin 29 = .ok (.iconst 1, 1) := by decide +kernel
theorem dX3_canJoin_30 : decode cX3_canJoin 30 = .ok (.invokevirtual 136, 3) := by decide +kernel
theorem dX3_canJoin_33 : decode cX3_canJoin 33 = .ok (.ireturn, 1) := by decide +kernel
set_option maxRecDepth 20000 in
theorem ggX3_meanDepth_X3_isRow : GoodIn wsX3_meanDepth wsX3_isRow := goodIn_r _ [6] (by decide +kernel) (by decide +kernel)
set_option maxRecDepth 20000 in
theorem gX3_meanDepth_X3_isRow : GoodIn wsX3_meanDepth (va_wsS RX3 88 yX3_isRow wsX3_isRow) := goodIn_app (goodIn_of _ (by decide +kernel)) ggX3_meanDepth_X3_isRow
set_option maxRecDepth 20000 in
theorem ggX3_meanDepth_X3_depthsOf : GoodIn wsX3_meanDepth wsX3_depthsOf := goodIn_r _ [10, 2, 7, 8, 9, 5, 15, 16, 17, 18, 19, 20] (by decide +kernel) (by decide +kernel)
set_option maxRecDepth 20000 in
theorem gX3_meanDepth_X3_depthsOf : GoodIn wsX3_meanDepth (wsV RX3 62 RX3 yX3_depthsOf wsX3_depthsOf) := goodIn_app (goodIn_of _ (by decide +kernel)) ggX3_meanDepth_X3_depthsOf
set_option maxRecDepth 20000 in
theorem ggX3_meanDepth_X3_count : GoodIn wsX3_meanDepth wsX3_count := goodIn_r _ [14, 2, 11, 12, 13, 5, 15, 16, 17, 18, 19, 20] (by decide +kernel) (by decide +kernel)
set_option maxRecDepth 20000 in
theorem gX3_meanDepth_X3_count : GoodIn wsX3_meanDepth (wsV RX3 50 RX3 yX3_count wsX3_count) := goodIn_app (goodIn_of _ (by decide +kernel)) ggX3_meanDepth_X3_count
theorem dX3_meanDepth_0 : decode cX3_meanDepth 0 = .ok (.aload_n 0, 1) := by decide +kernel
theorem dX3_meanDepth_1 : decode cX3_meanDepth 1 = .ok (.iload_n 1, 1) := by decide +kernel
theorem dX3_meanDepth_2 : decode cX3_meanDepth 2 = .ok (.invokestatic 88, 3) := by decide +kernel
theorem dX3_meanDepth_5 : decode cX3_meanDepth 5 = .ok (.ifCond .eq 7, 3) := by decide +kernel
theorem dX3_meanDepth_8 : decode cX3_meanDepth 8 = .ok (.iconst 0, 1) := by decide +kernel
theorem dX3_meanDepth_9 : decode cX3_meanDepth 9 = .ok (.goto 4, 3) := by decide +kernel
theorem dX3_meanDepth_12 : decode cX3_meanDepth 12 = .ok (.iconst 1, 1) := by decide +kernel
theorem dX3_meanDepth_13 : decode cX3_meanDepth 13 = .ok (.putfield 16, 3) := by decide +kernel
theorem dX3_meanDepth_16 : decode cX3_meanDepth 16 = .ok (.aload_n 0, 1) := by decide +kernel
theorem dX3_meanDepth_17 : decode cX3_meanDepth 17 = .ok (.getfield 16, 3) := by decide +kernel
theorem dX3_meanDepth_20 : decode cX3_meanDepth 20 = .ok (.ifCond .gt 17, 3) := by decide +kernel
theorem dX3_meanDepth_23 : decode cX3_meanDepth 23 = .ok (.aload_n 0, 1) := by decide +kernel
theorem dX3_meanDepth_24 : decode cX3_meanDepth 24 = .ok (.getfield 9, 3) := by decide +kernel
theorem dX3_meanDepth_27 : decode cX3_meanDepth 27 = .ok (.sipush 200, 3) := by decide +kernel
theorem dX3_meanDepth_30 : decode cX3_meanDepth 30 = .ok (.iload_n 1, 1) := by decide +kernel
theorem dX3_meanDepth_31 : decode cX3_meanDepth 31 = .ok (.iadd, 1) := by decide +kernel
theorem dX3_meanDepth_32 : decode cX3_meanDepth 32 = .ok (.iaload, 1) := by decide +kernel
theorem dX3_meanDepth_33 : decode cX3_meanDepth 33 = .ok (.iconst (-1), 1) := by decide +kernel
theorem dX3_meanDepth_34 : decode cX3_meanDepth 34 = .ok (.if_icmp .ne 5, 3) := by decide +kernel
theorem dX3_meanDepth_37 : decode cX3_meanDepth 37 = .ok (.dconst 0, 1) := by decide +kernel
theorem dX3_meanDepth_38 : decode cX3_meanDepth 38 = .ok (.dreturn, 1) := by decide +kernel
theorem dX3_meanDepth_39 : decode cX3_meanDepth 39 = .ok (.aload_n 0, 1) := by decide +kernel
theorem dX3_meanDepth_40 : decode cX3_meanDepth 40 = .ok (.aload_n 0, 1) := by decide +kernel
theorem dX3_meanDepth_41 : decode cX3_meanDepth 41 = .ok (.getfield 9, 3) := by decide +kernel
theorem dX3_meanDepth_44 : decode cX3_meanDepth 44 = .ok (.sipush 200, 3) := by decide +kernel
theorem dX3_meanDepth_47 : decode cX3_meanDepth 47 = .ok (.iload_n 1, 1) := by decide +kernel
theorem dX3_meanDepth_48 : decode cX3_meanDepth 48 = .ok (.iadd, 1) := by decide +kernel
theorem dX3_meanDepth_49 : decode cX3_meanDepth 49 = .ok (.iaload, 1) := by decide +kernel
theorem dX3_meanDepth_50 : decode cX3_meanDepth 50 = .ok (.iconst 0, 1) := by decide +kernel
theorem dX3_meanDepth_51 : decode cX3_meanDepth 51 = .ok (.invokevirtual 62, 3) := by decide +kernel
theorem dX3_meanDepth_54 : decode cX3_meanDepth 54 = .ok (.i2d, 1) := by decide +kernel
theorem dX3_meanDepth_55 : decode cX3_meanDepth 55 = .ok (.aload_n 0, 1) := by decide +kernel
theorem dX3_meanDepth_56 : decode cX3_meanDepth 56 = .ok (.aload_n 0, 1) := by decide +kernel
theorem dX3_meanDepth_57 : decode cX3_meanDepth 57 = .ok (.getfield 9, 3) := by decide +kernel
theorem dX3_meanDepth_60 : decode cX3_meanDepth 60 = .ok (.sipush 200, 3) := by decide +kernel
theorem dX3_meanDepth_63 : decode cX3_meanDepth 63 = .ok (.iload_n 1, 1) := by decide +kernel
theorem dX3_meanDepth_64 : decode cX3_meanDepth 64 = .ok (.iadd, 1) := by decide +kernel
theorem dX3_meanDepth_65 : decode cX3_meanDepth 65 = .ok (.iaload, 1) := by decide +kernel
theorem dX3_meanDepth_66 : decode cX3_meanDepth 66 = .ok (.invokevirtual 50, 3) := by decide +kernel
theorem dX3_meanDepth_69 : decode cX3_meanDepth 69 = .ok (.i2d, 1) := by decide +kernel
theorem dX3_meanDepth_70 : decode cX3_meanDepth 70 = .ok (.ddiv, 1) := by decide +kernel
theorem dX3_meanDepth_71 : decode cX3_meanDepth 71 = .ok (.dreturn, 1) := by decide +kernel
set_option maxRecDepth 20000 in
theorem ggX3_digest_X3_count : GoodIn wsX3_digest wsX3_count := goodIn_r _ [11, 6, 7, 8, 9, 10, 85, 86, 87, 88, 89, 90] (by decide +kernel) (by decide +kernel)
set_option maxRecDepth 20000 in
theorem gX3_digest_X3_count : GoodIn wsX3_digest (wsV RX3 50 RX3 yX3_count wsX3_count) := goodIn_app (goodIn_of _ (by decide +kernel)) ggX3_digest_X3_count
set_option maxRecDepth 20000 in
theorem ggX3_digest_X3_sizeAt : GoodIn wsX3_digest wsX3_sizeAt := goodIn_r _ [15, 6, 85, 86, 87, 88, 89, 90] (by decide +kernel) (by decide +kernel)
set_option maxRecDepth 20000 in
theorem gX3_digest_X3_sizeAt : GoodIn wsX3_digest (wsV RX3 130 RX3 yX3_sizeAt wsX3_sizeAt) := goodIn_app (goodIn_of _ (by decide +kernel)) ggX3_digest_X3_sizeAt
set_option maxRecDepth 20000 in
theorem ggX3_digest_X3_high : GoodIn wsX3_digest wsX3_high := goodIn_r _ [19, 6, 20, 21, 22, 23, 16, 17, 18, 10, 85, 86, 87, 88, 89, 90] (by decide +kernel) (by decide +kernel)
set_option maxRecDepth 20000 in
theorem gX3_digest_X3_high : GoodIn wsX3_digest (wsV RX3 53 RX3 yX3_high wsX3_high) := goodIn_app (goodIn_of _ (by decide +kernel)) ggX3_digest_X3_high
set_option maxRecDepth 20000 in
theorem ggX3_digest_X3_lowest : GoodIn wsX3_digest wsX3_lowest := goodIn_r _ [27, 6, 7, 8, 9, 10, 11, 85, 86, 87, 88, 89, 90] (by decide +kernel) (by decide +kernel)
set_option maxRecDepth 20000 in
theorem gX3_digest_X3_lowest : GoodIn wsX3_digest (wsV RX3 133 RX3 yX3_lowest wsX3_lowest) := goodIn_app (goodIn_of _ (by decide +kernel)) ggX3_digest_X3_lowest
set_option maxRecDepth 20000 in
theorem ggX3_digest_X3_depthsOf : GoodIn wsX3_digest wsX3_depthsOf := goodIn_r _ [31, 6, 28, 29, 30, 10, 85, 86, 87, 88, 89, 90] (by decide +kernel) (by decide +kernel)
set_option maxRecDepth 20000 in
theorem gX3_digest_X3_depthsOf : GoodIn wsX3_digest (wsV RX3 62 RX3 yX3_depthsOf wsX3_depthsOf) := goodIn_app (goodIn_of _ (by decide +kernel)) ggX3_digest_X3_depthsOf
set_option maxRecDepth 20000 in
theorem ggX3_digest_X3_ends : GoodIn wsX3_digest wsX3_ends := goodIn_r _ [35, 6, 32, 33, 34, 10, 85, 86, 87, 88, 89, 90] (by decide +kernel) (by decide +kernel)
set_option maxRecDepth 20000 in
theorem gX3_digest_X3_ends : GoodIn wsX3_digest (wsV RX3 65 RX3 yX3_ends wsX3_ends) := goodIn_app (goodIn_of _ (by decide +kernel)) ggX3_digest_X3_ends
set_option maxRecDepth 20000 in
theorem ggX3_digest_X3_liked : GoodIn wsX3_digest wsX3_liked := goodIn_r _ [39, 6, 7, 8, 9, 10, 11, 40, 41, 42, 43, 12, 13, 14, 15, 85, 86, 87, 88, 89, 90] (by decide +kernel) (by decide +kernel)
set_option maxRecDepth 20000 in
theorem gX3_digest_X3_liked : GoodIn wsX3_digest (wsV RX3 142 RX3 yX3_liked wsX3_liked) := goodIn_app (goodIn_of _ (by decide +kernel)) ggX3_digest_X3_liked
set_option maxRecDepth 20000 in
theorem ggX3_digest_X3_best : GoodIn wsX3_digest wsX3_best := goodIn_r _ [47, 6, 7, 8, 9, 10, 11, 40, 41, 42, 43, 48, 49, 50, 51, 52, 53, 54, 55, 56, 5, 57, 58, 59, 60, 61, 62, 63, 64, 65, 66, 67, 68, 69, 70, 71, 72, 73, 74, 75, 76, 28, 29, 30, 31, 77, 78, 79, 80, 12, 13, 14, 15, 85, 86, 87, 88, 89, 90] (by decide +kernel) (by decide +kernel)
set_option maxRecDepth 20000 in
theorem gX3_digest_X3_best : GoodIn wsX3_digest (wsV RX3 151 RX3 yX3_best wsX3_best) := goodIn_app (goodIn_of _ (by decide +kernel)) ggX3_digest_X3_best
set_option maxRecDepth 20000 in
theorem ggX3_digest_X3_nth : GoodIn wsX3_digest wsX3_nth := goodIn_r _ [43, 6, 7, 8, 9, 10, 11, 40, 41, 42, 85, 86, 87, 88, 89, 90] (by decide +kernel) (by decide +kernel)
set_option maxRecDepth 20000 in
theorem gX3_digest_X3_nth : GoodIn wsX3_digest (wsV RX3 71 RX3 yX3_nth wsX3_nth) := goodIn_app (goodIn_of _ (by decide +kernel)) ggX3_digest_X3_nth
set_option maxRecDepth 20000 in
theorem ggX3_digest_X3_deep : GoodIn wsX3_digest wsX3_deep := goodIn_r _ [84, 6, 85, 86, 87, 88, 89, 90] (by decide +kernel) (by decide +kernel)
set_option maxRecDepth 20000 in
theorem gX3_digest_X3_deep : GoodIn wsX3_digest (wsV RX3 81 RX3 yX3_deep wsX3_deep) := goodIn_app (goodIn_of _ (by decide +kernel)) ggX3_digest_X3_deep
theorem dX3_digest_0 : decode cX3_digest 0 = .ok (.aload_n 0, 1) := by decide +kernel
theorem dX3_digest_1 : decode cX3_digest 1 = .ok (.iconst 0, 1) := by decide +kernel
theorem dX3_digest_2 : decode cX3_digest 2 = .ok (.putfield 16, 3) := by decide +kernel
theorem dX3_digest_5 : decode cX3_digest 5 = .ok (.ldc2_w 157, 3) := by decide +kernel
theorem dX3_digest_8 : decode cX3_digest 8 = .ok (.aload_n 0, 1) := by decide +kernel
theorem dX3_digest_9 : decode cX3_digest 9 = .ok (.getfield 78, 3) := by decide +kernel
theorem dX3_digest_12 : decode cX3_digest 12 = .ok (.i2l, 1) := by decide +kernel
theorem dX3_digest_13 : decode cX3_digest 13 = .ok (.ladd, 1) := by decide +kernel
theorem dX3_digest_14 : decode cX3_digest 14 = .ok (.ldc2_w 159, 3) := by decide +kernel
theorem dX3_digest_17 : decode cX3_digest 17 = .ok (.lmul, 1) := by decide +kernel
theorem dX3_digest_18 : decode cX3_digest 18 = .ok (.aload_n 0, 1) := by decide +kernel
theorem dX3_digest_19 : decode cX3_digest 19 = .ok (.getfield 26, 3) := by decide +kernel
theorem dX3_digest_22 : decode cX3_digest 22 = .ok (.i2l, 1) := by decide +kernel
theorem dX3_digest_23 : decode cX3_digest 23 = .ok (.ladd, 1) := by decide +kernel
theorem dX3_digest_24 : decode cX3_digest 24 = .ok (.lstore_n 1, 1) := by decide +kernel
theorem dX3_digest_25 : decode cX3_digest 25 = .ok (.iconst 0, 1) := by decide +kernel
theorem dX3_digest_26 : decode cX3_digest 26 = .ok (.istore_n 3, 1) := by decide +kernel
theorem dX3_digest_27 : decode cX3_digest 27 = .ok (.iload_n 3, 1) := by decide +kernel
theorem dX3_digest_28 : decode cX3_digest 28 = .ok (.bipush 6, 2) := by decide +kernel
theorem dX3_digest_30 : decode cX3_digest 30 = .ok (.if_icmp .ge 275, 3) := by decide +kernel
theorem dX3_digest_33 : decode cX3_digest 33 = .ok (.aload_n 0, 1) := by decide +kernel
theorem dX3_digest_34 : decode cX3_digest 34 = .ok (.getfield 9, 3) := by decide +kernel
theorem dX3_digest_37 : decode cX3_digest 37 = .ok (.sipush 200, 3) := by decide +kernel
theorem dX3_digest_40 : decode cX3_digest 40 = .ok (.iload_n 3, 1) := by decide +kernel
theorem dX3_digest_41 : decode cX3_digest 41 = .ok (.iadd, 1) := by decide +kernel
theorem dX3_digest_42 : decode cX3_digest 42 = .ok (.iaload, 1) := by decide +kernel
theorem dX3_digest_43 : decode cX3_digest 43 = .ok (.istore 4, 2) := by decide +kernel
theorem dX3_digest_45 : decode cX3_digest 45 = .ok (.lload_n 1, 1) := by decide +kernel
theorem dX3_digest_46 : decode cX3_digest 46 = .ok (.ldc2_w 159, 3) := by decide +kernel
theorem dX3_digest_49 : decode cX3_digest 49 = .ok (.lmul, 1) := by decide +kernel
theorem dX3_digest_50 : decode cX3_digest 50 = .ok (.aload_n 0, 1) := by decide +kernel
theorem dX3_digest_51 : decode cX3_digest 51 = .ok (.iload 4, 2) := by decide +kernel
theorem dX3_digest_53 : decode cX3_digest 53 = .ok (.invokevirtual 50, 3) := by decide +kernel
theorem dX3_digest_56 : decode cX3_digest 56 = .ok (.i2l, 1) := by decide +kernel
theorem dX3_digest_57 : decode cX3_digest 57 = .ok (.ladd, 1) := by decide +kernel
theorem dX3_digest_58 : decode cX3_digest 58 = .ok (.ldc2_w 159, 3) := by decide +kernel
theorem dX3_digest_61 : decode cX3_digest 61 = .ok (.lmul, 1) := by decide +kernel
theorem dX3_digest_62 : decode cX3_digest 62 = .ok (.aload_n 0, 1) := by decide +kernel
theorem dX3_digest_63 : decode cX3_digest 63 = .ok (.iload 4, 2) := by decide +kernel
theorem dX3_digest_65 : decode cX3_digest 65 = .ok (.invokevirtual 130, 3) := by decide +kernel
theorem dX3_digest_68 : decode cX3_digest 68 = .ok (.i2l, 1) := by decide +kernel
theorem dX3_digest_69 : decode cX3_digest 69 = .ok (.ladd, 1) := by decide +kernel
theorem dX3_digest_70 : decode cX3_digest 70 = .ok (.ldc2_w 159, 3) := by decide +kernel
theorem dX3_digest_73 : decode cX3_digest 73 = .ok (.lmul, 1) := by decide +kernel
theorem dX3_digest_74 : decode cX3_digest 74 = .ok (.aload_n 0, 1) := by decide +kernel
theorem dX3_digest_75 : decode cX3_digest 75 = .ok (.iload 4, 2) := by decide +kernel
theorem dX3_digest_77 : decode cX3_digest 77 = .ok (.invokevirtual 53, 3) := by decide +kernel
theorem dX3_digest_80 : decode cX3_digest 80 = .ok (.i2l, 1) := by decide +kernel
theorem dX3_digest_81 : decode cX3_digest 81 = .ok (.ladd, 1) := by decide +kernel
theorem dX3_digest_82 : decode cX3_digest 82 = .ok (.lstore_n 1, 1) := by decide +kernel
theorem dX3_digest_83 : decode cX3_digest 83 = .ok (.lload_n 1, 1) := by decide +kernel
theorem dX3_digest_84 : decode cX3_digest 84 = .ok (.ldc2_w 159, 3) := by decide +kernel
theorem dX3_digest_87 : decode cX3_digest 87 = .ok (.lmul, 1) := by decide +kernel
theorem dX3_digest_88 : decode cX3_digest 88 = .ok (.aload_n 0, 1) := by decide +kernel
theorem dX3_digest_89 : decode cX3_digest 89 = .ok (.iload_n 3, 1) := by decide +kernel
theorem dX3_digest_90 : decode cX3_digest 90 = .ok (.invokevirtual 133, 3) := by decide +kernel
theorem dX3_digest_93 : decode cX3_digest 93 = .ok (.i2l, 1) := by decide +kernel
theorem dX3_digest_94 : decode cX3_digest 94 = .ok (.ladd, 1) := by decide +kernel
theorem dX3_digest_95 : decode cX3_digest 95 = .ok (.ldc2_w 159, 3) := by decide +kernel
theorem dX3_digest_98 : decode cX3_digest 98 = .ok (.lmul, 1) := by decide +kernel
theorem dX3_digest_99 : decode cX3_digest 99 = .ok (.aload_n 0, 1) := by decide +kernel
theorem dX3_digest_100 : decode cX3_digest 100 = .ok (.iload 4, 2) := by decide +kernel
theorem dX3_digest_102 : decode cX3_digest 102 = .ok (.iconst 0, 1) := by decide +kernel
theorem dX3_digest_103 : decode cX3_digest 103 = .ok (.invokevirtual 62, 3) := by decide +kernel
theorem dX3_digest_106 : decode cX3_digest 106 = .ok (.i2l, 1) := by decide +kernel
theorem dX3_digest_107 : decode cX3_digest 107 = .ok (.ladd, 1) := by decide +kernel
theorem dX3_digest_108 : decode cX3_digest 108 = .ok (.ldc2_w 159, 3) := by decide +kernel
theorem dX3_digest_111 : decode cX3_digest 111 = .ok (.lmul, 1) := by decide +kernel
theorem dX3_digest_112 : decode cX3_digest 112 = .ok (.aload_n 0, 1) := by decide +kernel
theorem dX3_digest_113 : decode cX3_digest 113 = .ok (.iload 4, 2) := by decide +kernel
theorem dX3_digest_115 : decode cX3_digest 115 = .ok (.invokevirtual 65, 3) := by decide +kernel
theorem dX3_digest_118 : decode cX3_digest 118 = .ok (.i2l, 1) := by decide +kernel
theorem dX3_digest_119 : decode cX3_digest 119 = .ok (.ladd, 1) := by decide +kernel
theorem dX3_digest_120 : decode cX3_digest 120 = .ok (.lstore_n 1, 1) := by decide +kernel
theorem dX3_digest_121 : decode cX3_digest 121 = .ok (.lload_n 1, 1) := by decide +kernel
theorem dX3_digest_122 : decode cX3_digest 122 = .ok (.ldc2_w 159, 3) := by decide +kernel
theorem dX3_digest_125 : decode cX3_digest 125 = .ok (.lmul, 1) := by decide +kernel
theorem dX3_digest_126 : decode cX3_digest 126 = .ok (.aload_n 0, 1) := by decide +kernel
theorem dX3_digest_127 : decode cX3_digest 127 = .ok (.iload_n 3, 1) := by decide +kernel
theorem dX3_digest_128 : decode cX3_digest 128 = .ok (.invokevirtual 142, 3) := by decide +kernel
theorem dX3_digest_131 : decode cX3_digest 131 = .ok (.i2l, 1) := by decide +kernel
theorem dX3_digest_132 : decode cX3_digest 132 = .ok (.ladd, 1) := by decide +kernel
theorem dX3_digest_133 : decode cX3_digest 133 = .ok (.ldc2_w 159, 3) := by decide +kernel
theorem dX3_digest_136 : decode cX3_digest 136 = .ok (.lmul, 1) := by decide +kernel
theorem dX3_digest_137 : decode cX3_digest 137 = .ok (.aload_n 0, 1) := by decide +kernel
theorem dX3_digest_138 : decode cX3_digest 138 = .ok (.iload_n 3, 1) := by decide +kernel
theorem dX3_digest_139 : decode cX3_digest 139 = .ok (.invokevirtual 151, 3) := by decide +kernel
theorem dX3_digest_142 : decode cX3_digest 142 = .ok (.i2l, 1) := by decide +kernel
theorem dX3_digest_143 : decode cX3_digest 143 = .ok (.ladd, 1) := by decide +kernel
theorem dX3_digest_144 : decode cX3_digest 144 = .ok (.lstore_n 1, 1) := by decide +kernel
theorem dX3_digest_145 : decode cX3_digest 145 = .ok (.iconst 0, 1) := by decide +kernel
theorem dX3_digest_146 : decode cX3_digest 146 = .ok (.istore 5, 2) := by decide +kernel
theorem dX3_digest_148 : decode cX3_digest 148 = .ok (.iload 5, 2) := by decide +kernel
theorem dX3_digest_150 : decode cX3_digest 150 = .ok (.aload_n 0, 1) := by decide +kernel
theorem dX3_digest_151 : decode cX3_digest 151 = .ok (.iload 4, 2) := by decide +kernel
theorem dX3_digest_153 : decode cX3_digest 153 = .ok (.invokevirtual 50, 3) := by decide +kernel
theorem dX3_digest_156 : decode cX3_digest 156 = .ok (.if_icmp .ge 143, 3) := by decide +kernel
theorem dX3_digest_159 : decode cX3_digest 159 = .ok (.aload_n 0, 1) := by decide +kernel
theorem dX3_digest_160 : decode cX3_digest 160 = .ok (.iload 4, 2) := by decide +kernel
theorem dX3_digest_162 : decode cX3_digest 162 = .ok (.iload 5, 2) := by decide +kernel
theorem dX3_digest_164 : decode cX3_digest 164 = .ok (.invokevirtual 71, 3) := by decide +kernel
theorem dX3_digest_167 : decode cX3_digest 167 = .ok (.istore 6, 2) := by decide +kernel
theorem dX3_digest_169 : decode cX3_digest 169 = .ok (.lload_n 1, 1) := by decide +kernel
theorem dX3_digest_170 : decode cX3_digest 170 = .ok (.ldc2_w 159, 3) := by decide +kernel
theorem dX3_digest_173 : decode cX3_digest 173 = .ok (.lmul, 1) := by decide +kernel
theorem dX3_digest_174 : decode cX3_digest 174 = .ok (.aload_n 0, 1) := by decide +kernel
theorem dX3_digest_175 : decode cX3_digest 175 = .ok (.getfield 9, 3) := by decide +kernel
theorem dX3_digest_178 : decode cX3_digest 178 = .ok (.iconst 0, 1) := by decide +kernel
theorem dX3_digest_179 : decode cX3_digest 179 = .ok (.iload 6, 2) := by decide +kernel
theorem dX3_digest_181 : decode cX3_digest 181 = .ok (.iadd, 1) := by decide +kernel
theorem dX3_digest_182 : decode cX3_digest 182 = .ok (.iaload, 1) := by decide +kernel
theorem dX3_digest_183 : decode cX3_digest 183 = .ok (.i2l, 1) := by decide +kernel
theorem dX3_digest_184 : decode cX3_digest 184 = .ok (.ladd, 1) := by decide +kernel
theorem dX3_digest_185 : decode cX3_digest 185 = .ok (.ldc2_w 159, 3) := by decide +kernel
theorem dX3_digest_188 : decode cX3_digest 188 = .ok (.lmul, 1) := by decide +kernel
theorem dX3_digest_189 : decode cX3_digest 189 = .ok (.aload_n 0, 1) := by decide +kernel
theorem dX3_digest_190 : decode cX3_digest 190 = .ok (.iload 6, 2) := by decide +kernel
theorem dX3_digest_192 : decode cX3_digest 192 = .ok (.invokevirtual 81, 3) := by decide +kernel
theorem dX3_digest_195 : decode cX3_digest 195 = .ok (.i2l, 1) := by decide +kernel
theorem dX3_digest_196 : decode cX3_digest 196 = .ok (.ladd, 1) := by decide +kernel
theorem dX3_digest_197 : decode cX3_digest 197 = .ok (.ldc2_w 159, 3) := by decide +kernel
theorem dX3_digest_200 : decode cX3_digest 200 = .ok (.lmul, 1) := by decide +kernel
theorem dX3_digest_201 : decode cX3_digest 201 = .ok (.aload_n 0, 1) := by decide +kernel
theorem dX3_digest_202 : decode cX3_digest 202 = .ok (.aload_n 0, 1) := by decide +kernel
theorem dX3_digest_203 : decode cX3_digest 203 = .ok (.getfield 9, 3) := by decide +kernel
theorem dX3_digest_206 : decode cX3_digest 206 = .ok (.bipush 120, 2) := by decide +kernel
theorem dX3_digest_208 : decode cX3_digest 208 = .ok (.iload 6, 2) := by decide +kernel
theorem dX3_digest_210 : decode cX3_digest 210 = .ok (.iadd, 1) := by decide +kernel
theorem dX3_digest_211 : decode cX3_digest 211 = .ok (.iaload, 1) := by decide +kernel
theorem dX3_digest_212 : decode cX3_digest 212 = .ok (.invokevirtual 130, 3) := by decide +kernel
theorem dX3_digest_215 : decode cX3_digest 215 = .ok (.i2l, 1) := by decide +kernel
theorem dX3_digest_216 : decode cX3_digest 216 = .ok (.ladd, 1) := by decide +kernel
theorem dX3_digest_217 : decode cX3_digest 217 = .ok (.lstore_n 1, 1) := by decide +kernel
theorem dX3_digest_218 : decode cX3_digest 218 = .ok (.lload_n 1, 1) := by decide +kernel
theorem dX3_digest_219 : decode cX3_digest 219 = .ok (.ldc2_w 159, 3) := by decide +kernel
theorem dX3_digest_222 : decode cX3_digest 222 = .ok (.lmul, 1) := by decide +kernel
theorem dX3_digest_223 : decode cX3_digest 223 = .ok (.aload_n 0, 1) := by decide +kernel
theorem dX3_digest_224 : decode cX3_digest 224 = .ok (.aload_n 0, 1) := by decide +kernel
theorem dX3_digest_225 : decode cX3_digest 225 = .ok (.getfield 9, 3) := by decide +kernel
theorem dX3_digest_228 : decode cX3_digest 228 = .ok (.bipush 40, 2) := by decide +kernel
theorem dX3_digest_230 : decode cX3_digest 230 = .ok (.iload 6, 2) := by decide +kernel
theorem dX3_digest_232 : decode cX3_digest 232 = .ok (.iadd, 1) := by decide +kernel
theorem dX3_digest_233 : decode cX3_digest 233 = .ok (.iaload, 1) := by decide +kernel
theorem dX3_digest_234 : decode cX3_digest 234 = .ok (.invokevirtual 130, 3) := by decide +kernel
theorem dX3_digest_237 : decode cX3_digest 237 = .ok (.i2l, 1) := by decide +kernel
theorem dX3_digest_238 : decode cX3_digest 238 = .ok (.ladd, 1) := by decide +kernel
theorem dX3_digest_239 : decode cX3_digest 239 = .ok (.ldc2_w 159, 3) := by decide +kernel
theorem dX3_digest_242 : decode cX3_digest 242 = .ok (.lmul, 1) := by decide +kernel
theorem dX3_digest_243 : decode cX3_digest 243 = .ok (.aload_n 0, 1) := by decide +kernel
theorem dX3_digest_244 : decode cX3_digest 244 = .ok (.aload_n 0, 1) := by decide +kernel
theorem dX3_digest_245 : decode cX3_digest 245 = .ok (.getfield 9, 3) := by decide +kernel
theorem dX3_digest_248 : decode cX3_digest 248 = .ok (.bipush 80, 2) := by decide +kernel
theorem dX3_digest_250 : decode cX3_digest 250 = .ok (.iload 6, 2) := by decide +kernel
theorem dX3_digest_252 : decode cX3_digest 252 = .ok (.iadd, 1) := by decide +kernel
theorem dX3_digest_253 : decode cX3_digest 253 = .ok (.iaload, 1) := by decide +kernel
theorem dX3_digest_254 : decode cX3_digest 254 = .ok (.invokevirtual 130, 3) := by decide +kernel
theorem dX3_digest_257 : decode cX3_digest 257 = .ok (.i2l, 1) := by decide +kernel
theorem dX3_digest_258 : decode cX3_digest 258 = .ok (.ladd, 1) := by decide +kernel
theorem dX3_digest_259 : decode cX3_digest 259 = .ok (.ldc2_w 159, 3) := by decide +kernel
theorem dX3_digest_262 : decode cX3_digest 262 = .ok (.lmul, 1) := by decide +kernel
theorem dX3_digest_263 : decode cX3_digest 263 = .ok (.aload_n 0, 1) := by decide +kernel
theorem dX3_digest_264 : decode cX3_digest 264 = .ok (.iload 6, 2) := by decide +kernel
theorem dX3_digest_266 : decode cX3_digest 266 = .ok (.invokevirtual 50, 3) := by decide +kernel
theorem dX3_digest_269 : decode cX3_digest 269 = .ok (.iconst 1, 1) := by decide +kernel
theorem dX3_digest_270 : decode cX3_digest 270 = .ok (.isub, 1) := by decide +kernel
theorem dX3_digest_271 : decode cX3_digest 271 = .ok (.i2l, 1) := by decide +kernel
theorem dX3_digest_272 : decode cX3_digest 272 = .ok (.ladd, 1) := by decide +kernel
theorem dX3_digest_273 : decode cX3_digest 273 = .ok (.lstore_n 1, 1) := by decide +kernel
theorem dX3_digest_274 : decode cX3_digest 274 = .ok (.lload_n 1, 1) := by decide +kernel
theorem dX3_digest_275 : decode cX3_digest 275 = .ok (.ldc2_w 159, 3) := by decide +kernel
theorem dX3_digest_278 : decode cX3_digest 278 = .ok (.lmul, 1) := by decide +kernel
theorem dX3_digest_279 : decode cX3_digest 279 = .ok (.aload_n 0, 1) := by decide +kernel
theorem dX3_digest_280 : decode cX3_digest 280 = .ok (.getfield 9, 3) := by decide +kernel
theorem dX3_digest_283 : decode cX3_digest 283 = .ok (.sipush 160, 3) := by decide +kernel
theorem dX3_digest_286 : decode cX3_digest 286 = .ok (.iload 6, 2) := by decide +kernel
theorem dX3_digest_288 : decode cX3_digest 288 = .ok (.iadd, 1) := by decide +kernel
theorem dX3_digest_289 : decode cX3_digest 289 = .ok (.iaload, 1) := by decide +kernel
theorem dX3_digest_290 : decode cX3_digest 290 = .ok (.i2l, 1) := by decide +kernel
theorem dX3_digest_291 : decode cX3_digest 291 = .ok (.ladd, 1) := by decide +kernel
theorem dX3_digest_292 : decode cX3_digest 292 = .ok (.lstore_n 1, 1) := by decide +kernel
theorem dX3_digest_293 : decode cX3_digest 293 = .ok (.iinc 5 1, 3) := by decide +kernel
theorem dX3_digest_296 : decode cX3_digest 296 = .ok (.goto (-148), 3) := by decide +kernel
theorem dX3_digest_299 : decode cX3_digest 299 = .ok (.iinc 3 1, 3) := by decide +kernel
theorem dX3_digest_302 : decode cX3_digest 302 = .ok (.goto (-275), 3) := by decide +kernel
theorem dX3_digest_305 : decode cX3_digest 305 = .ok (.lload_n 1, 1) := by decide +kernel
theorem dX3_digest_306 : decode cX3_digest 306 = .ok (.lreturn, 1) := by decide +kernel
theorem dJ9_max_7cf53_0 : decode cJ9_max_7cf53 0 = .ok (.iload_n 0, 1) := by decide +kernel
theorem dJ9_max_7cf53_1 : decode cJ9_max_7cf53 1 = .ok (.iload_n 1, 1) := by decide +kernel
theorem dJ9_max_7cf53_2 : decode cJ9_max_7cf53 2 = .ok (.if_icmp .lt 7, 3) := by decide +kernel
theorem dJ9_max_7cf53_5 : decode cJ9_max_7cf53 5 = .ok (.iload_n 0, 1) := by decide +kernel
theorem dJ9_max_7cf53_6 : decode cJ9_max_7cf53 6 = .ok (.goto 4, 3) := by decide +kernel
theorem dJ9_max_7cf53_9 : decode cJ9_max_7cf53 9 = .ok (.iload_n 1, 1) := by decide +kernel
theorem dJ9_max_7cf53_10 : decode cJ9_max_7cf53 10 = .ok (.ireturn, 1) := by decide +kernel
theorem dJ9_min_7cf53_0 : decode cJ9_min_7cf53 0 = .ok (.iload_n 0, 1) := by decide +kernel
theorem dJ9_min_7cf53_1 : decode cJ9_min_7cf53 1 = .ok (.iload_n 1, 1) := by decide +kernel
theorem dJ9_min_7cf53_2 : decode cJ9_min_7cf53 2 = .ok (.if_icmp .gt 7, 3) := by decide +kernel
theorem dJ9_min_7cf53_5 : decode cJ9_min_7cf53 5 = .ok (.iload_n 0, 1) := by decide +kernel
theorem dJ9_min_7cf53_6 : decode cJ9_min_7cf53 6 = .ok (.goto 4, 3) := by decide +kernel
theorem dJ9_min_7cf53_9 : decode cJ9_min_7cf53 9 = .ok (.iload_n 1, 1) := by decide +kernel
theorem dJ9_min_7cf53_10 : decode cJ9_min_7cf53 10 = .ok (.ireturn, 1) := by decide +kernel
set_option maxRecDepth 20000 in
theorem ggL_plant_X2_plant : GoodIn wsL_plant wsX2_plant := goodIn_ca (goodIn_ca (goodIn_ca (goodIn_r _ [8, 9, 10, 11, 12, 13, 14, 15, 16, 7, 17, 18, 19, 20, 21, 22, 23, 24, 25, 26, 27, 28, 29, 30, 31, 32, 33, 34, 35, 36, 37, 38, 39, 40, 41, 42, 43, 44, 45, 46, 47, 48, 49, 50, 51, 52, 53, 54, 55, 56, 57, 58, 59, 60, 61, 62, 63, 64, 65, 66, 67, 68, 69, 70, 71, 72, 73, 74, 75, 76, 77, 78, 79, 80, 81, 82, 83, 84, 85, 86, 87, 88, 89, 90, 91, 92, 93, 94, 95, 96, 97, 98, 99, 100, 101, 102, 103, 104, 105, 106, 107, 108, 109, 110, 111, 112, 113, 114, 115, 116, 117, 118, 119, 120, 121, 122, 123, 124, 125, 126] (by decide +kernel) (by decide +kernel)) (goodIn_sub (fun _ h => List.mem_cons_of_mem _ (List.mem_append_left _ (List.mem_append_left _ (List.mem_append_right _ h)))) (by decide +kernel))) (goodIn_sub (fun _ h => List.mem_cons_of_mem _ (List.mem_append_left _ (List.mem_append_right _ h))) (by decide +kernel))) (goodIn_sub (fun _ h => List.mem_cons_of_mem _ (List.mem_append_right _ h)) (by decide +kernel))
set_option maxRecDepth 20000 in
theorem gL_plant_X2_plant : GoodIn wsL_plant (wsV RL 7 RX2 yX2_plant wsX2_plant) := goodIn_app (goodIn_of _ (by decide +kernel)) ggL_plant_X2_plant
theorem dL_plant_0 : decode cL_plant 0 = .ok (.aload_n 3, 1) := by decide +kernel
theorem dL_plant_1 : decode cL_plant 1 = .ok (.iconst 0, 1) := by decide +kernel
theorem dL_plant_2 : decode cL_plant 2 = .ok (.aload_n 0, 1) := by decide +kernel
theorem dL_plant_3 : decode cL_plant 3 = .ok (.iload_n 1, 1) := by decide +kernel
theorem dL_plant_4 : decode cL_plant 4 = .ok (.iload_n 2, 1) := by decide +kernel
theorem dL_plant_5 : decode cL_plant 5 = .ok (.invokevirtual 7, 3) := by decide +kernel
theorem dL_plant_8 : decode cL_plant 8 = .ok (.i2l, 1) := by decide +kernel
theorem dL_plant_9 : decode cL_plant 9 = .ok (.lastore, 1) := by decide +kernel
theorem dL_plant_10 : decode cL_plant 10 = .ok (.goto 15, 3) := by decide +kernel
theorem dL_plant_13 : decode cL_plant 13 = .ok (.astore 4, 2) := by decide +kernel
theorem dL_plant_15 : decode cL_plant 15 = .ok (.iconst 1, 1) := by decide +kernel
theorem dL_plant_16 : decode cL_plant 16 = .ok (.ireturn, 1) := by decide +kernel
theorem dL_plant_17 : decode cL_plant 17 = .ok (.astore 4, 2) := by decide +kernel
theorem dL_plant_19 : decode cL_plant 19 = .ok (.iconst 2, 1) := by decide +kernel
theorem dL_plant_20 : decode cL_plant 20 = .ok (.ireturn, 1) := by decide +kernel
theorem dL_plant_21 : decode cL_plant 21 = .ok (.astore 4, 2) := by decide +kernel
theorem dL_plant_23 : decode cL_plant 23 = .ok (.iconst 3, 1) := by decide +kernel
theorem dL_plant_24 : decode cL_plant 24 = .ok (.ireturn, 1) := by decide +kernel
theorem dL_plant_25 : decode cL_plant 25 = .ok (.iconst 0, 1) := by decide +kernel
theorem dL_plant_26 : decode cL_plant 26 = .ok (.ireturn, 1) := by decide +kernel
set_option maxRecDepth 20000 in
theorem ggL_eat_X2_eat : GoodIn wsL_eat wsX2_eat := goodIn_ca (goodIn_ca (goodIn_r _ [7, 8, 9, 10, 11, 6, 12, 13, 14, 15, 16, 17, 18, 19, 20, 21, 22, 23, 24, 25, 26, 27, 28, 29, 30, 31, 32, 33, 34, 35, 36, 37, 38, 39, 40, 41, 42, 43, 44, 45, 46, 47, 48, 49, 50, 51, 52, 53, 54, 55, 56, 57, 58, 59, 60, 61, 62, 63, 64, 65, 66, 67, 68, 69, 70, 71, 72, 73, 74, 75, 76, 77, 78, 79, 80, 81] (by decide +kernel) (by decide +kernel)) (goodIn_sub (fun _ h => List.mem_cons_of_mem _ (List.mem_append_left _ (List.mem_append_right _ h))) (by decide +kernel))) (goodIn_sub (fun _ h => List.mem_cons_of_mem _ (List.mem_append_right _ h)) (by decide +kernel))
set_option maxRecDepth 20000 in
theorem gL_eat_X2_eat : GoodIn wsL_eat (wsV RL 19 RX2 yX2_eat wsX2_eat) := goodIn_app (goodIn_of _ (by decide +kernel)) ggL_eat_X2_eat
theorem dL_eat_0 : decode cL_eat 0 = .ok (.aload_n 3, 1) := by decide +kernel
theorem dL_eat_1 : decode cL_eat 1 = .ok (.iconst 0, 1) := by decide +kernel
theorem dL_eat_2 : decode cL_eat 2 = .ok (.aload_n 0, 1) := by decide +kernel
theorem dL_eat_3 : decode cL_eat 3 = .ok (.iload_n 1, 1) := by decide +kernel
theorem dL_eat_4 : decode cL_eat 4 = .ok (.iload_n 2, 1) := by decide +kernel
theorem dL_eat_5 : decode cL_eat 5 = .ok (.invokevirtual 19, 3) := by decide +kernel
theorem dL_eat_8 : decode cL_eat 8 = .ok (.i2l, 1) := by decide +kernel
theorem dL_eat_9 : decode cL_eat 9 = .ok (.lastore, 1) := by decide +kernel
theorem dL_eat_10 : decode cL_eat 10 = .ok (.goto 11, 3) := by decide +kernel
theorem dL_eat_13 : decode cL_eat 13 = .ok (.astore 4, 2) := by decide +kernel
theorem dL_eat_15 : decode cL_eat 15 = .ok (.iconst 1, 1) := by decide +kernel
theorem dL_eat_16 : decode cL_eat 16 = .ok (.ireturn, 1) := by decide +kernel
theorem dL_eat_17 : decode cL_eat 17 = .ok (.astore 4, 2) := by decide +kernel
theorem dL_eat_19 : decode cL_eat 19 = .ok (.iconst 2, 1) := by decide +kernel
theorem dL_eat_20 : decode cL_eat 20 = .ok (.ireturn, 1) := by decide +kernel
theorem dL_eat_21 : decode cL_eat 21 = .ok (.iconst 0, 1) := by decide +kernel
theorem dL_eat_22 : decode cL_eat 22 = .ok (.ireturn, 1) := by decide +kernel
set_option maxRecDepth 20000 in
theorem ggL_pick_X2_pick : GoodIn wsL_pick wsX2_pick := goodIn_ca (goodIn_ca (goodIn_r _ [7, 8, 9, 10, 11, 12, 13, 6, 14, 15, 16, 17, 18, 19, 20, 21, 22, 23, 24, 25, 26, 27, 28, 29, 30, 31, 32, 33, 34, 35, 36, 37, 38, 39, 40, 41, 42, 43, 44, 45, 46, 47, 48, 49, 50, 51, 52, 53, 54, 55, 56, 57, 58, 59, 60, 61, 62, 63, 64, 65, 66, 67, 68, 69, 70, 71, 72, 73, 74, 75, 76, 77, 78, 79, 80, 81, 82, 83, 84, 85, 86, 87, 88, 89, 90, 91, 92, 93, 94, 95, 96, 97, 98, 99, 100] (by decide +kernel) (by decide +kernel)) (goodIn_sub (fun _ h => List.mem_cons_of_mem _ (List.mem_append_left _ (List.mem_append_right _ h))) (by decide +kernel))) (goodIn_sub (fun _ h => List.mem_cons_of_mem _ (List.mem_append_right _ h)) (by decide +kernel))
set_option maxRecDepth 20000 in
theorem gL_pick_X2_pick : GoodIn wsL_pick (wsV RL 22 RX2 yX2_pick wsX2_pick) := goodIn_app (goodIn_of _ (by decide +kernel)) ggL_pick_X2_pick
theorem dL_pick_0 : decode cL_pick 0 = .ok (.aload_n 3, 1) := by decide +kernel
theorem dL_pick_1 : decode cL_pick 1 = .ok (.iconst 0, 1) := by decide +kernel
theorem dL_pick_2 : decode cL_pick 2 = .ok (.aload_n 0, 1) := by decide +kernel
theorem dL_pick_3 : decode cL_pick 3 = .ok (.iload_n 1, 1) := by decide +kernel
theorem dL_pick_4 : decode cL_pick 4 = .ok (.iload_n 2, 1) := by decide +kernel
theorem dL_pick_5 : decode cL_pick 5 = .ok (.invokevirtual 22, 3) := by decide +kernel
theorem dL_pick_8 : decode cL_pick 8 = .ok (.i2l, 1) := by decide +kernel
theorem dL_pick_9 : decode cL_pick 9 = .ok (.lastore, 1) := by decide +kernel
theorem dL_pick_10 : decode cL_pick 10 = .ok (.goto 11, 3) := by decide +kernel
theorem dL_pick_13 : decode cL_pick 13 = .ok (.astore 4, 2) := by decide +kernel
theorem dL_pick_15 : decode cL_pick 15 = .ok (.iconst 1, 1) := by decide +kernel
theorem dL_pick_16 : decode cL_pick 16 = .ok (.ireturn, 1) := by decide +kernel
theorem dL_pick_17 : decode cL_pick 17 = .ok (.astore 4, 2) := by decide +kernel
theorem dL_pick_19 : decode cL_pick 19 = .ok (.iconst 2, 1) := by decide +kernel
theorem dL_pick_20 : decode cL_pick 20 = .ok (.ireturn, 1) := by decide +kernel
theorem dL_pick_21 : decode cL_pick 21 = .ok (.iconst 0, 1) := by decide +kernel
theorem dL_pick_22 : decode cL_pick 22 = .ok (.ireturn, 1) := by decide +kernel
set_option maxRecDepth 20000 in
theorem ggL_split_X2_split : GoodIn wsL_split wsX2_split := goodIn_ca (goodIn_ca (goodIn_ca (goodIn_r _ [8, 9, 10, 11, 12, 13, 14, 15, 7, 16, 17, 18, 19, 20, 21, 22, 23, 24, 25, 26, 27, 28, 29, 30, 31, 32, 33, 34, 35, 36, 37, 38, 39, 40, 41, 42, 43, 44, 45, 46, 47, 48, 49, 50, 51, 52, 53, 54, 55, 56, 57, 58, 59, 60, 61, 62, 63, 64, 65, 66, 67, 68, 69, 70, 71, 72, 73, 74, 75, 76, 77, 78, 79, 80, 81, 82, 83, 84, 85, 86, 87, 88, 89, 90, 91, 92, 93, 94, 95, 96, 97, 98, 99, 100, 101, 102, 103, 104, 105, 106, 107] (by decide +kernel) (by decide +kernel)) (goodIn_sub (fun _ h => List.mem_cons_of_mem _ (List.mem_append_left _ (List.mem_append_left _ (List.mem_append_right _ h)))) (by decide +kernel))) (goodIn_sub (fun _ h => List.mem_cons_of_mem _ (List.mem_append_left _ (List.mem_append_right _ h))) (by decide +kernel))) (goodIn_sub (fun _ h => List.mem_cons_of_mem _ (List.mem_append_right _ h)) (by decide +kernel))
set_option maxRecDepth 20000 in
theorem gL_split_X2_split : GoodIn wsL_split (wsV RL 25 RX2 yX2_split wsX2_split) := goodIn_app (goodIn_of _ (by decide +kernel)) ggL_split_X2_split
theorem dL_split_0 : decode cL_split 0 = .ok (.aload 4, 2) := by decide +kernel
theorem dL_split_2 : decode cL_split 2 = .ok (.iconst 0, 1) := by decide +kernel
theorem dL_split_3 : decode cL_split 3 = .ok (.aload_n 0, 1) := by decide +kernel
theorem dL_split_4 : decode cL_split 4 = .ok (.iload_n 1, 1) := by decide +kernel
theorem dL_split_5 : decode cL_split 5 = .ok (.iload_n 2, 1) := by decide +kernel
theorem dL_split_6 : decode cL_split 6 = .ok (.iload_n 3, 1) := by decide +kernel
theorem dL_split_7 : decode cL_split 7 = .ok (.invokevirtual 25, 3) := by decide +kernel
theorem dL_split_10 : decode cL_split 10 = .ok (.i2l, 1) := by decide +kernel
theorem dL_split_11 : decode cL_split 11 = .ok (.lastore, 1) := by decide +kernel
theorem dL_split_12 : decode cL_split 12 = .ok (.goto 15, 3) := by decide +kernel
theorem dL_split_15 : decode cL_split 15 = .ok (.astore 5, 2) := by decide +kernel
theorem dL_split_17 : decode cL_split 17 = .ok (.iconst 1, 1) := by decide +kernel
theorem dL_split_18 : decode cL_split 18 = .ok (.ireturn, 1) := by decide +kernel
theorem dL_split_19 : decode cL_split 19 = .ok (.astore 5, 2) := by decide +kernel
theorem dL_split_21 : decode cL_split 21 = .ok (.iconst 2, 1) := by decide +kernel
theorem dL_split_22 : decode cL_split 22 = .ok (.ireturn, 1) := by decide +kernel
theorem dL_split_23 : decode cL_split 23 = .ok (.astore 5, 2) := by decide +kernel
theorem dL_split_25 : decode cL_split 25 = .ok (.iconst 3, 1) := by decide +kernel
theorem dL_split_26 : decode cL_split 26 = .ok (.ireturn, 1) := by decide +kernel
theorem dL_split_27 : decode cL_split 27 = .ok (.iconst 0, 1) := by decide +kernel
theorem dL_split_28 : decode cL_split 28 = .ok (.ireturn, 1) := by decide +kernel
set_option maxRecDepth 20000 in
theorem ggL_join_X2_join : GoodIn wsL_join wsX2_join := goodIn_ca (goodIn_ca (goodIn_r _ [7, 8, 9, 10, 11, 12, 13, 6, 14, 15, 16, 17, 18, 19, 20, 21, 22, 23, 24, 25, 26, 27, 28, 29, 30, 31, 32, 33, 34, 35, 36, 37, 38, 39, 40, 41, 42, 43, 44, 45, 46, 47, 48, 49, 50, 51, 52, 53, 54, 55, 56, 57, 58, 59, 60, 61, 62, 63, 64, 65, 66, 67, 68, 69, 70, 71, 72, 73, 74, 75, 76, 77, 78, 79, 80, 81, 82, 83, 84, 85, 86, 87, 88, 89, 90, 91, 92, 93, 94, 95, 96, 97, 98, 99, 100, 101, 102, 103, 104, 105, 106, 107] (by decide +kernel) (by decide +kernel)) (goodIn_sub (fun _ h => List.mem_cons_of_mem _ (List.mem_append_left _ (List.mem_append_right _ h))) (by decide +kernel))) (goodIn_sub (fun _ h => List.mem_cons_of_mem _ (List.mem_append_right _ h)) (by decide +kernel))
set_option maxRecDepth 20000 in
theorem gL_join_X2_join : GoodIn wsL_join (wsV RL 29 RX2 yX2_join wsX2_join) := goodIn_app (goodIn_of _ (by decide +kernel)) ggL_join_X2_join
theorem dL_join_0 : decode cL_join 0 = .ok (.aload_n 3, 1) := by decide +kernel
theorem dL_join_1 : decode cL_join 1 = .ok (.iconst 0, 1) := by decide +kernel
theorem dL_join_2 : decode cL_join 2 = .ok (.aload_n 0, 1) := by decide +kernel
theorem dL_join_3 : decode cL_join 3 = .ok (.iload_n 1, 1) := by decide +kernel
theorem dL_join_4 : decode cL_join 4 = .ok (.iload_n 2, 1) := by decide +kernel
theorem dL_join_5 : decode cL_join 5 = .ok (.invokevirtual 29, 3) := by decide +kernel
theorem dL_join_8 : decode cL_join 8 = .ok (.i2l, 1) := by decide +kernel
theorem dL_join_9 : decode cL_join 9 = .ok (.lastore, 1) := by decide +kernel
theorem dL_join_10 : decode cL_join 10 = .ok (.goto 11, 3) := by decide +kernel
theorem dL_join_13 : decode cL_join 13 = .ok (.astore 4, 2) := by decide +kernel
theorem dL_join_15 : decode cL_join 15 = .ok (.iconst 1, 1) := by decide +kernel
theorem dL_join_16 : decode cL_join 16 = .ok (.ireturn, 1) := by decide +kernel
theorem dL_join_17 : decode cL_join 17 = .ok (.astore 4, 2) := by decide +kernel
theorem dL_join_19 : decode cL_join 19 = .ok (.iconst 2, 1) := by decide +kernel
theorem dL_join_20 : decode cL_join 20 = .ok (.ireturn, 1) := by decide +kernel
theorem dL_join_21 : decode cL_join 21 = .ok (.iconst 0, 1) := by decide +kernel
theorem dL_join_22 : decode cL_join 22 = .ok (.ireturn, 1) := by decide +kernel
set_option maxRecDepth 20000 in
theorem ggL_sizeOf_X2_sizeOf : GoodIn wsL_sizeOf wsX2_sizeOf := goodIn_ca (goodIn_r _ [6, 7, 8, 9, 5, 10, 11, 12, 13, 14, 15, 16, 17, 18, 19, 20, 21, 22, 23, 24, 25, 26, 27, 28, 29, 30, 31, 32, 33, 34, 35, 36, 37, 38, 39, 40, 41, 42, 43, 44, 45, 46, 47, 48, 49] (by decide +kernel) (by decide +kernel)) (goodIn_sub (fun _ h => List.mem_cons_of_mem _ (List.mem_append_right _ h)) (by decide +kernel))
set_option maxRecDepth 20000 in
theorem gL_sizeOf_X2_sizeOf : GoodIn wsL_sizeOf (wsV RL 32 RX2 yX2_sizeOf wsX2_sizeOf) := goodIn_app (goodIn_of _ (by decide +kernel)) ggL_sizeOf_X2_sizeOf
theorem dL_sizeOf_0 : decode cL_sizeOf 0 = .ok (.aload_n 2, 1) := by decide +kernel
theorem dL_sizeOf_1 : decode cL_sizeOf 1 = .ok (.iconst 0, 1) := by decide +kernel
theorem dL_sizeOf_2 : decode cL_sizeOf 2 = .ok (.aload_n 0, 1) := by decide +kernel
theorem dL_sizeOf_3 : decode cL_sizeOf 3 = .ok (.iload_n 1, 1) := by decide +kernel
theorem dL_sizeOf_4 : decode cL_sizeOf 4 = .ok (.invokevirtual 32, 3) := by decide +kernel
theorem dL_sizeOf_7 : decode cL_sizeOf 7 = .ok (.i2l, 1) := by decide +kernel
theorem dL_sizeOf_8 : decode cL_sizeOf 8 = .ok (.lastore, 1) := by decide +kernel
theorem dL_sizeOf_9 : decode cL_sizeOf 9 = .ok (.goto 6, 3) := by decide +kernel
theorem dL_sizeOf_12 : decode cL_sizeOf 12 = .ok (.astore_n 3, 1) := by decide +kernel
theorem dL_sizeOf_13 : decode cL_sizeOf 13 = .ok (.iconst 1, 1) := by decide +kernel
theorem dL_sizeOf_14 : decode cL_sizeOf 14 = .ok (.ireturn, 1) := by decide +kernel
theorem dL_sizeOf_15 : decode cL_sizeOf 15 = .ok (.iconst 0, 1) := by decide +kernel
theorem dL_sizeOf_16 : decode cL_sizeOf 16 = .ok (.ireturn, 1) := by decide +kernel
set_option maxRecDepth 20000 in
theorem ggL_top_X2_top : GoodIn wsL_top wsX2_top := goodIn_ca (goodIn_r _ [6, 7, 8, 9, 10, 5, 11, 12, 13, 14, 15, 16, 17, 18, 19, 20, 21, 22, 23, 24, 25, 26, 27, 28] (by decide +kernel) (by decide +kernel)) (goodIn_sub (fun _ h => List.mem_cons_of_mem _ (List.mem_append_right _ h)) (by decide +kernel))
set_option maxRecDepth 20000 in
theorem gL_top_X2_top : GoodIn wsL_top (wsV RL 36 RX2 yX2_top wsX2_top) := goodIn_app (goodIn_of _ (by decide +kernel)) ggL_top_X2_top
theorem dL_top_0 : decode cL_top 0 = .ok (.aload_n 2, 1) := by decide +kernel
theorem dL_top_1 : decode cL_top 1 = .ok (.iconst 0, 1) := by decide +kernel
theorem dL_top_2 : decode cL_top 2 = .ok (.aload_n 0, 1) := by decide +kernel
theorem dL_top_3 : decode cL_top 3 = .ok (.iload_n 1, 1) := by decide +kernel
theorem dL_top_4 : decode cL_top 4 = .ok (.invokevirtual 36, 3) := by decide +kernel
theorem dL_top_7 : decode cL_top 7 = .ok (.i2l, 1) := by decide +kernel
theorem dL_top_8 : decode cL_top 8 = .ok (.lastore, 1) := by decide +kernel
theorem dL_top_9 : decode cL_top 9 = .ok (.goto 6, 3) := by decide +kernel
theorem dL_top_12 : decode cL_top 12 = .ok (.astore_n 3, 1) := by decide +kernel
theorem dL_top_13 : decode cL_top 13 = .ok (.iconst 1, 1) := by decide +kernel
theorem dL_top_14 : decode cL_top 14 = .ok (.ireturn, 1) := by decide +kernel
theorem dL_top_15 : decode cL_top 15 = .ok (.iconst 0, 1) := by decide +kernel
theorem dL_top_16 : decode cL_top 16 = .ok (.ireturn, 1) := by decide +kernel
set_option maxRecDepth 20000 in
theorem ggL_height_X2_height : GoodIn wsL_height wsX2_height := goodIn_ca (goodIn_r _ [6, 7, 8, 9, 5, 10, 11, 12, 13, 14, 15, 16, 17, 18, 19, 20, 21, 22, 23, 24, 25, 26, 27, 28, 29, 30, 31, 32, 33, 34, 35, 36, 37, 38, 39, 40, 41, 42, 43, 44, 45, 46, 47, 48, 49, 50, 51, 52, 53, 54] (by decide +kernel) (by decide +kernel)) (goodIn_sub (fun _ h => List.mem_cons_of_mem _ (List.mem_append_right _ h)) (by decide +kernel))
set_option maxRecDepth 20000 in
theorem gL_height_X2_height : GoodIn wsL_height (wsV RL 39 RX2 yX2_height wsX2_height) := goodIn_app (goodIn_of _ (by decide +kernel)) ggL_height_X2_height
theorem dL_height_0 : decode cL_height 0 = .ok (.aload_n 2, 1) := by decide +kernel
theorem dL_height_1 : decode cL_height 1 = .ok (.iconst 0, 1) := by decide +kernel
theorem dL_height_2 : decode cL_height 2 = .ok (.aload_n 0, 1) := by decide +kernel
theorem dL_height_3 : decode cL_height 3 = .ok (.iload_n 1, 1) := by decide +kernel
theorem dL_height_4 : decode cL_height 4 = .ok (.invokevirtual 39, 3) := by decide +kernel
theorem dL_height_7 : decode cL_height 7 = .ok (.i2l, 1) := by decide +kernel
theorem dL_height_8 : decode cL_height 8 = .ok (.lastore, 1) := by decide +kernel
theorem dL_height_9 : decode cL_height 9 = .ok (.goto 6, 3) := by decide +kernel
theorem dL_height_12 : decode cL_height 12 = .ok (.astore_n 3, 1) := by decide +kernel
theorem dL_height_13 : decode cL_height 13 = .ok (.iconst 1, 1) := by decide +kernel
theorem dL_height_14 : decode cL_height 14 = .ok (.ireturn, 1) := by decide +kernel
theorem dL_height_15 : decode cL_height 15 = .ok (.iconst 0, 1) := by decide +kernel
theorem dL_height_16 : decode cL_height 16 = .ok (.ireturn, 1) := by decide +kernel
set_option maxRecDepth 20000 in
theorem ggL_leastHeight_X2_leastHeight : GoodIn wsL_leastHeight wsX2_leastHeight := goodIn_ca (goodIn_r _ [6, 7, 8, 9, 5, 10, 11, 12, 13, 14, 15, 16, 17, 18, 19, 20, 21, 22, 23, 24, 25, 26, 27, 28, 29, 30, 31, 32, 33, 34, 35, 36, 37, 38, 39, 40, 41, 42, 43, 44, 45, 46, 47, 48, 49] (by decide +kernel) (by decide +kernel)) (goodIn_sub (fun _ h => List.mem_cons_of_mem _ (List.mem_append_right _ h)) (by decide +kernel))
set_option maxRecDepth 20000 in
theorem gL_leastHeight_X2_leastHeight : GoodIn wsL_leastHeight (wsV RL 42 RX2 yX2_leastHeight wsX2_leastHeight) := goodIn_app (goodIn_of _ (by decide +kernel)) ggL_leastHeight_X2_leastHeight
theorem dL_leastHeight_0 : decode cL_leastHeight 0 = .ok (.aload_n 2, 1) := by decide +kernel
theorem dL_leastHeight_1 : decode cL_leastHeight 1 = .ok (.iconst 0, 1) := by decide +kernel
theorem dL_leastHeight_2 : decode cL_leastHeight 2 = .ok (.aload_n 0, 1) := by decide +kernel
theorem dL_leastHeight_3 : decode cL_leastHeight 3 = .ok (.iload_n 1, 1) := by decide +kernel
theorem dL_leastHeight_4 : decode cL_leastHeight 4 = .ok (.invokevirtual 42, 3) := by decide +kernel
theorem dL_leastHeight_7 : decode cL_leastHeight 7 = .ok (.i2l, 1) := by decide +kernel
theorem dL_leastHeight_8 : decode cL_leastHeight 8 = .ok (.lastore, 1) := by decide +kernel
theorem dL_leastHeight_9 : decode cL_leastHeight 9 = .ok (.goto 6, 3) := by decide +kernel
theorem dL_leastHeight_12 : decode cL_leastHeight 12 = .ok (.astore_n 3, 1) := by decide +kernel
theorem dL_leastHeight_13 : decode cL_leastHeight 13 = .ok (.iconst 1, 1) := by decide +kernel
theorem dL_leastHeight_14 : decode cL_leastHeight 14 = .ok (.ireturn, 1) := by decide +kernel
theorem dL_leastHeight_15 : decode cL_leastHeight 15 = .ok (.iconst 0, 1) := by decide +kernel
theorem dL_leastHeight_16 : decode cL_leastHeight 16 = .ok (.ireturn, 1) := by decide +kernel
set_option maxRecDepth 20000 in
theorem ggL_depths_X2_depths : GoodIn wsL_depths wsX2_depths := goodIn_ca (goodIn_r _ [6, 7, 8, 9, 5, 10, 11, 12, 13, 14, 15, 16, 17, 18, 19, 20, 21, 22, 23, 24, 25, 26, 27, 28, 29, 30, 31, 32, 33, 34, 35, 36, 37, 38, 39, 40, 41, 42, 43, 44, 45, 46, 47, 48, 49, 50] (by decide +kernel) (by decide +kernel)) (goodIn_sub (fun _ h => List.mem_cons_of_mem _ (List.mem_append_right _ h)) (by decide +kernel))
set_option maxRecDepth 20000 in
theorem gL_depths_X2_depths : GoodIn wsL_depths (wsV RL 45 RX2 yX2_depths wsX2_depths) := goodIn_app (goodIn_of _ (by decide +kernel)) ggL_depths_X2_depths
theorem dL_depths_0 : decode cL_depths 0 = .ok (.aload_n 2, 1) := by decide +kernel
theorem dL_depths_1 : decode cL_depths 1 = .ok (.iconst 0, 1) := by decide +kernel
theorem dL_depths_2 : decode cL_depths 2 = .ok (.aload_n 0, 1) := by decide +kernel
theorem dL_depths_3 : decode cL_depths 3 = .ok (.iload_n 1, 1) := by decide +kernel
theorem dL_depths_4 : decode cL_depths 4 = .ok (.invokevirtual 45, 3) := by decide +kernel
theorem dL_depths_7 : decode cL_depths 7 = .ok (.i2l, 1) := by decide +kernel
theorem dL_depths_8 : decode cL_depths 8 = .ok (.lastore, 1) := by decide +kernel
theorem dL_depths_9 : decode cL_depths 9 = .ok (.goto 6, 3) := by decide +kernel
theorem dL_depths_12 : decode cL_depths 12 = .ok (.astore_n 3, 1) := by decide +kernel
theorem dL_depths_13 : decode cL_depths 13 = .ok (.iconst 1, 1) := by decide +kernel
theorem dL_depths_14 : decode cL_depths 14 = .ok (.ireturn, 1) := by decide +kernel
theorem dL_depths_15 : decode cL_depths 15 = .ok (.iconst 0, 1) := by decide +kernel
theorem dL_depths_16 : decode cL_depths 16 = .ok (.ireturn, 1) := by decide +kernel
set_option maxRecDepth 20000 in
theorem ggL_smallest_X2_smallest : GoodIn wsL_smallest wsX2_smallest := goodIn_ca (goodIn_r _ [6, 7, 8, 9, 5, 10, 11, 12, 13, 14, 15, 16, 17, 18, 19, 20, 21, 22, 23, 24, 25, 26, 27, 28, 29, 30, 31, 32, 33, 34, 35, 36, 37, 38, 39] (by decide +kernel) (by decide +kernel)) (goodIn_sub (fun _ h => List.mem_cons_of_mem _ (List.mem_append_right _ h)) (by decide +kernel))
set_option maxRecDepth 20000 in
theorem gL_smallest_X2_smallest : GoodIn wsL_smallest (wsV RL 48 RX2 yX2_smallest wsX2_smallest) := goodIn_app (goodIn_of _ (by decide +kernel)) ggL_smallest_X2_smallest
theorem dL_smallest_0 : decode cL_smallest 0 = .ok (.aload_n 2, 1) := by decide +kernel
theorem dL_smallest_1 : decode cL_smallest 1 = .ok (.iconst 0, 1) := by decide +kernel
theorem dL_smallest_2 : decode cL_smallest 2 = .ok (.aload_n 0, 1) := by decide +kernel
theorem dL_smallest_3 : decode cL_smallest 3 = .ok (.iload_n 1, 1) := by decide +kernel
theorem dL_smallest_4 : decode cL_smallest 4 = .ok (.invokevirtual 48, 3) := by decide +kernel
theorem dL_smallest_7 : decode cL_smallest 7 = .ok (.i2l, 1) := by decide +kernel
theorem dL_smallest_8 : decode cL_smallest 8 = .ok (.lastore, 1) := by decide +kernel
theorem dL_smallest_9 : decode cL_smallest 9 = .ok (.goto 6, 3) := by decide +kernel
theorem dL_smallest_12 : decode cL_smallest 12 = .ok (.astore_n 3, 1) := by decide +kernel
theorem dL_smallest_13 : decode cL_smallest 13 = .ok (.iconst 1, 1) := by decide +kernel
theorem dL_smallest_14 : decode cL_smallest 14 = .ok (.ireturn, 1) := by decide +kernel
theorem dL_smallest_15 : decode cL_smallest 15 = .ok (.iconst 0, 1) := by decide +kernel
theorem dL_smallest_16 : decode cL_smallest 16 = .ok (.ireturn, 1) := by decide +kernel
set_option maxRecDepth 20000 in
theorem ggL_greatest_X2_greatest : GoodIn wsL_greatest wsX2_greatest := goodIn_ca (goodIn_r _ [6, 7, 8, 9, 5, 10, 11, 12, 13, 14, 15, 16, 17, 18, 19, 20, 21, 22, 23, 24, 25, 26, 27, 28, 29, 30, 31, 32, 33, 34, 35, 36, 37, 38, 39] (by decide +kernel) (by decide +kernel)) (goodIn_sub (fun _ h => List.mem_cons_of_mem _ (List.mem_append_right _ h)) (by decide +kernel))
set_option maxRecDepth 20000 in
theorem gL_greatest_X2_greatest : GoodIn wsL_greatest (wsV RL 51 RX2 yX2_greatest wsX2_greatest) := goodIn_app (goodIn_of _ (by decide +kernel)) ggL_greatest_X2_greatest
theorem dL_greatest_0 : decode cL_greatest 0 = .ok (.aload_n 2, 1) := by decide +kernel
theorem dL_greatest_1 : decode cL_greatest 1 = .ok (.iconst 0, 1) := by decide +kernel
theorem dL_greatest_2 : decode cL_greatest 2 = .ok (.aload_n 0, 1) := by decide +kernel
theorem dL_greatest_3 : decode cL_greatest 3 = .ok (.iload_n 1, 1) := by decide +kernel
theorem dL_greatest_4 : decode cL_greatest 4 = .ok (.invokevirtual 51, 3) := by decide +kernel
theorem dL_greatest_7 : decode cL_greatest 7 = .ok (.i2l, 1) := by decide +kernel
theorem dL_greatest_8 : decode cL_greatest 8 = .ok (.lastore, 1) := by decide +kernel
theorem dL_greatest_9 : decode cL_greatest 9 = .ok (.goto 6, 3) := by decide +kernel
theorem dL_greatest_12 : decode cL_greatest 12 = .ok (.astore_n 3, 1) := by decide +kernel
theorem dL_greatest_13 : decode cL_greatest 13 = .ok (.iconst 1, 1) := by decide +kernel
theorem dL_greatest_14 : decode cL_greatest 14 = .ok (.ireturn, 1) := by decide +kernel
theorem dL_greatest_15 : decode cL_greatest 15 = .ok (.iconst 0, 1) := by decide +kernel
theorem dL_greatest_16 : decode cL_greatest 16 = .ok (.ireturn, 1) := by decide +kernel
set_option maxRecDepth 20000 in
theorem ggL_inOrder_X2_inOrder : GoodIn wsL_inOrder wsX2_inOrder := goodIn_ca (goodIn_r _ [6, 7, 8, 9, 10, 11, 12, 5, 13, 14, 15, 16, 17, 18, 19, 20, 21, 22, 23, 24, 25, 26, 27, 28, 29, 30, 31, 32, 33, 34, 35, 36, 37, 38, 39, 40, 41, 42, 43, 44, 45, 46, 47] (by decide +kernel) (by decide +kernel)) (goodIn_sub (fun _ h => List.mem_cons_of_mem _ (List.mem_append_right _ h)) (by decide +kernel))
set_option maxRecDepth 20000 in
theorem gL_inOrder_X2_inOrder : GoodIn wsL_inOrder (wsV RL 54 RX2 yX2_inOrder wsX2_inOrder) := goodIn_app (goodIn_of _ (by decide +kernel)) ggL_inOrder_X2_inOrder
theorem dL_inOrder_0 : decode cL_inOrder 0 = .ok (.aload_n 3, 1) := by decide +kernel
theorem dL_inOrder_1 : decode cL_inOrder 1 = .ok (.iconst 0, 1) := by decide +kernel
theorem dL_inOrder_2 : decode cL_inOrder 2 = .ok (.aload_n 0, 1) := by decide +kernel
theorem dL_inOrder_3 : decode cL_inOrder 3 = .ok (.iload_n 1, 1) := by decide +kernel
theorem dL_inOrder_4 : decode cL_inOrder 4 = .ok (.iload_n 2, 1) := by decide +kernel
theorem dL_inOrder_5 : decode cL_inOrder 5 = .ok (.invokevirtual 54, 3) := by decide +kernel
theorem dL_inOrder_8 : decode cL_inOrder 8 = .ok (.i2l, 1) := by decide +kernel
theorem dL_inOrder_9 : decode cL_inOrder 9 = .ok (.lastore, 1) := by decide +kernel
theorem dL_inOrder_10 : decode cL_inOrder 10 = .ok (.goto 7, 3) := by decide +kernel
theorem dL_inOrder_13 : decode cL_inOrder 13 = .ok (.astore 4, 2) := by decide +kernel
theorem dL_inOrder_15 : decode cL_inOrder 15 = .ok (.iconst 1, 1) := by decide +kernel
theorem dL_inOrder_16 : decode cL_inOrder 16 = .ok (.ireturn, 1) := by decide +kernel
theorem dL_inOrder_17 : decode cL_inOrder 17 = .ok (.iconst 0, 1) := by decide +kernel
theorem dL_inOrder_18 : decode cL_inOrder 18 = .ok (.ireturn, 1) := by decide +kernel
set_option maxRecDepth 20000 in
theorem ggL_leaves_X2_leaves : GoodIn wsL_leaves wsX2_leaves := goodIn_ca (goodIn_r _ [6, 7, 8, 9, 5, 10, 11, 12, 13, 14, 15, 16, 17, 18, 19, 20, 21, 22, 23, 24, 25, 26, 27, 28, 29, 30, 31, 32, 33, 34, 35, 36, 37, 38, 39, 40, 41, 42, 43, 44, 45, 46, 47, 48] (by decide +kernel) (by decide +kernel)) (goodIn_sub (fun _ h => List.mem_cons_of_mem _ (List.mem_append_right _ h)) (by decide +kernel))
set_option maxRecDepth 20000 in
theorem gL_leaves_X2_leaves : GoodIn wsL_leaves (wsV RL 57 RX2 yX2_leaves wsX2_leaves) := goodIn_app (goodIn_of _ (by decide +kernel)) ggL_leaves_X2_leaves
theorem dL_leaves_0 : decode cL_leaves 0 = .ok (.aload_n 2, 1) := by decide +kernel
theorem dL_leaves_1 : decode cL_leaves 1 = .ok (.iconst 0, 1) := by decide +kernel
theorem dL_leaves_2 : decode cL_leaves 2 = .ok (.aload_n 0, 1) := by decide +kernel
theorem dL_leaves_3 : decode cL_leaves 3 = .ok (.iload_n 1, 1) := by decide +kernel
theorem dL_leaves_4 : decode cL_leaves 4 = .ok (.invokevirtual 57, 3) := by decide +kernel
theorem dL_leaves_7 : decode cL_leaves 7 = .ok (.i2l, 1) := by decide +kernel
theorem dL_leaves_8 : decode cL_leaves 8 = .ok (.lastore, 1) := by decide +kernel
theorem dL_leaves_9 : decode cL_leaves 9 = .ok (.goto 6, 3) := by decide +kernel
theorem dL_leaves_12 : decode cL_leaves 12 = .ok (.astore_n 3, 1) := by decide +kernel
theorem dL_leaves_13 : decode cL_leaves 13 = .ok (.iconst 1, 1) := by decide +kernel
theorem dL_leaves_14 : decode cL_leaves 14 = .ok (.ireturn, 1) := by decide +kernel
theorem dL_leaves_15 : decode cL_leaves 15 = .ok (.iconst 0, 1) := by decide +kernel
theorem dL_leaves_16 : decode cL_leaves 16 = .ok (.ireturn, 1) := by decide +kernel
set_option maxRecDepth 20000 in
theorem ggL_has_X2_has : GoodIn wsL_has wsX2_has := goodIn_ca (goodIn_r _ [6, 7, 8, 9, 5, 10, 11, 12, 13, 14, 15, 16, 17, 18, 19, 20, 21, 22, 23, 24, 25, 26, 27, 28, 29, 30, 31, 32, 33, 34, 35, 36, 37, 38, 39, 40, 41, 42] (by decide +kernel) (by decide +kernel)) (goodIn_sub (fun _ h => List.mem_cons_of_mem _ (List.mem_append_right _ h)) (by decide +kernel))
set_option maxRecDepth 20000 in
theorem gL_has_X2_has : GoodIn wsL_has (wsV RL 60 RX2 yX2_has wsX2_has) := goodIn_app (goodIn_of _ (by decide +kernel)) ggL_has_X2_has
theorem dL_has_0 : decode cL_has 0 = .ok (.aload_n 3, 1) := by decide +kernel
theorem dL_has_1 : decode cL_has 1 = .ok (.iconst 0, 1) := by decide +kernel
theorem dL_has_2 : decode cL_has 2 = .ok (.aload_n 0, 1) := by decide +kernel
theorem dL_has_3 : decode cL_has 3 = .ok (.iload_n 1, 1) := by decide +kernel
theorem dL_has_4 : decode cL_has 4 = .ok (.iload_n 2, 1) := by decide +kernel
theorem dL_has_5 : decode cL_has 5 = .ok (.invokevirtual 60, 3) := by decide +kernel
theorem dL_has_8 : decode cL_has 8 = .ok (.ifCond .eq 7, 3) := by decide +kernel
theorem dL_has_11 : decode cL_has 11 = .ok (.lconst 1, 1) := by decide +kernel
theorem dL_has_12 : decode cL_has 12 = .ok (.goto 4, 3) := by decide +kernel
theorem dL_has_15 : decode cL_has 15 = .ok (.lconst 0, 1) := by decide +kernel
theorem dL_has_16 : decode cL_has 16 = .ok (.lastore, 1) := by decide +kernel
theorem dL_has_17 : decode cL_has 17 = .ok (.goto 7, 3) := by decide +kernel
theorem dL_has_20 : decode cL_has 20 = .ok (.astore 4, 2) := by decide +kernel
theorem dL_has_22 : decode cL_has 22 = .ok (.iconst 1, 1) := by decide +kernel
theorem dL_has_23 : decode cL_has 23 = .ok (.ireturn, 1) := by decide +kernel
theorem dL_has_24 : decode cL_has 24 = .ok (.iconst 0, 1) := by decide +kernel
theorem dL_has_25 : decode cL_has 25 = .ok (.ireturn, 1) := by decide +kernel
set_option maxRecDepth 20000 in
theorem ggL_smaller_X2_smaller : GoodIn wsL_smaller wsX2_smaller := goodIn_ca (goodIn_r _ [6, 7, 8, 9, 5, 10, 11, 12, 13, 14, 15, 16, 17, 18, 19, 20, 21, 22, 23, 24, 25, 26, 27, 28, 29, 30, 31, 32, 33, 34, 35, 36, 37, 38, 39, 40, 41, 42, 43, 44, 45, 46, 47] (by decide +kernel) (by decide +kernel)) (goodIn_sub (fun _ h => List.mem_cons_of_mem _ (List.mem_append_right _ h)) (by decide +kernel))
set_option maxRecDepth 20000 in
theorem gL_smaller_X2_smaller : GoodIn wsL_smaller (wsV RL 64 RX2 yX2_smaller wsX2_smaller) := goodIn_app (goodIn_of _ (by decide +kernel)) ggL_smaller_X2_smaller
theorem dL_smaller_0 : decode cL_smaller 0 = .ok (.aload_n 3, 1) := by decide +kernel
theorem dL_smaller_1 : decode cL_smaller 1 = .ok (.iconst 0, 1) := by decide +kernel
theorem dL_smaller_2 : decode cL_smaller 2 = .ok (.aload_n 0, 1) := by decide +kernel
theorem dL_smaller_3 : decode cL_smaller 3 = .ok (.iload_n 1, 1) := by decide +kernel
theorem dL_smaller_4 : decode cL_smaller 4 = .ok (.iload_n 2, 1) := by decide +kernel
theorem dL_smaller_5 : decode cL_smaller 5 = .ok (.invokevirtual 64, 3) := by decide +kernel
theorem dL_smaller_8 : decode cL_smaller 8 = .ok (.i2l, 1) := by decide +kernel
theorem dL_smaller_9 : decode cL_smaller 9 = .ok (.lastore, 1) := by decide +kernel
theorem dL_smaller_10 : decode cL_smaller 10 = .ok (.goto 7, 3) := by decide +kernel
theorem dL_smaller_13 : decode cL_smaller 13 = .ok (.astore 4, 2) := by decide +kernel
theorem dL_smaller_15 : decode cL_smaller 15 = .ok (.iconst 1, 1) := by decide +kernel
theorem dL_smaller_16 : decode cL_smaller 16 = .ok (.ireturn, 1) := by decide +kernel
theorem dL_smaller_17 : decode cL_smaller 17 = .ok (.iconst 0, 1) := by decide +kernel
theorem dL_smaller_18 : decode cL_smaller 18 = .ok (.ireturn, 1) := by decide +kernel
set_option maxRecDepth 20000 in
theorem ggL_depthOf_X2_depthOf : GoodIn wsL_depthOf wsX2_depthOf := goodIn_ca (goodIn_ca (goodIn_r _ [7, 8, 9, 10, 6, 11, 12, 13, 14, 15, 16, 17, 18, 19, 20, 21, 22, 23, 24, 25, 26, 27, 28, 29, 30, 31, 32, 33, 34, 35, 36, 37, 38, 39, 40, 41, 42, 43, 44, 45, 46, 47, 48, 49, 50, 51, 52, 53] (by decide +kernel) (by decide +kernel)) (goodIn_sub (fun _ h => List.mem_cons_of_mem _ (List.mem_append_left _ (List.mem_append_right _ h))) (by decide +kernel))) (goodIn_sub (fun _ h => List.mem_cons_of_mem _ (List.mem_append_right _ h)) (by decide +kernel))
set_option maxRecDepth 20000 in
theorem gL_depthOf_X2_depthOf : GoodIn wsL_depthOf (wsV RL 67 RX2 yX2_depthOf wsX2_depthOf) := goodIn_app (goodIn_of _ (by decide +kernel)) ggL_depthOf_X2_depthOf
theorem dL_depthOf_0 : decode cL_depthOf 0 = .ok (.aload_n 3, 1) := by decide +kernel
theorem dL_depthOf_1 : decode cL_depthOf 1 = .ok (.iconst 0, 1) := by decide +kernel
theorem dL_depthOf_2 : decode cL_depthOf 2 = .ok (.aload_n 0, 1) := by decide +kernel
theorem dL_depthOf_3 : decode cL_depthOf 3 = .ok (.iload_n 1, 1) := by decide +kernel
theorem dL_depthOf_4 : decode cL_depthOf 4 = .ok (.iload_n 2, 1) := by decide +kernel
theorem dL_depthOf_5 : decode cL_depthOf 5 = .ok (.invokevirtual 67, 3) := by decide +kernel
theorem dL_depthOf_8 : decode cL_depthOf 8 = .ok (.i2l, 1) := by decide +kernel
theorem dL_depthOf_9 : decode cL_depthOf 9 = .ok (.lastore, 1) := by decide +kernel
theorem dL_depthOf_10 : decode cL_depthOf 10 = .ok (.goto 11, 3) := by decide +kernel
theorem dL_depthOf_13 : decode cL_depthOf 13 = .ok (.astore 4, 2) := by decide +kernel
theorem dL_depthOf_15 : decode cL_depthOf 15 = .ok (.iconst 1, 1) := by decide +kernel
theorem dL_depthOf_16 : decode cL_depthOf 16 = .ok (.ireturn, 1) := by decide +kernel
theorem dL_depthOf_17 : decode cL_depthOf 17 = .ok (.astore 4, 2) := by decide +kernel
theorem dL_depthOf_19 : decode cL_depthOf 19 = .ok (.iconst 2, 1) := by decide +kernel
theorem dL_depthOf_20 : decode cL_depthOf 20 = .ok (.ireturn, 1) := by decide +kernel
theorem dL_depthOf_21 : decode cL_depthOf 21 = .ok (.iconst 0, 1) := by decide +kernel
theorem dL_depthOf_22 : decode cL_depthOf 22 = .ok (.ireturn, 1) := by decide +kernel
set_option maxRecDepth 20000 in
theorem ggL_above_X2_above : GoodIn wsL_above wsX2_above := goodIn_ca (goodIn_ca (goodIn_r _ [7, 8, 9, 10, 11, 6, 12, 13, 14, 15, 16, 17, 18, 19, 20, 21, 22, 23, 24, 25, 26, 27, 28, 29, 30, 31, 32, 33, 34, 35, 36, 37, 38, 39, 40, 41, 42, 43, 44, 45, 46, 47, 48, 49, 50, 51, 52, 53] (by decide +kernel) (by decide +kernel)) (goodIn_sub (fun _ h => List.mem_cons_of_mem _ (List.mem_append_left _ (List.mem_append_right _ h))) (by decide +kernel))) (goodIn_sub (fun _ h => List.mem_cons_of_mem _ (List.mem_append_right _ h)) (by decide +kernel))
set_option maxRecDepth 20000 in
theorem gL_above_X2_above : GoodIn wsL_above (wsV RL 70 RX2 yX2_above wsX2_above) := goodIn_app (goodIn_of _ (by decide +kernel)) ggL_above_X2_above
theorem dL_above_0 : decode cL_above 0 = .ok (.aload_n 3, 1) := by decide +kernel
theorem dL_above_1 : decode cL_above 1 = .ok (.iconst 0, 1) := by decide +kernel
theorem dL_above_2 : decode cL_above 2 = .ok (.aload_n 0, 1) := by decide +kernel
theorem dL_above_3 : decode cL_above 3 = .ok (.iload_n 1, 1) := by decide +kernel
theorem dL_above_4 : decode cL_above 4 = .ok (.iload_n 2, 1) := by decide +kernel
theorem dL_above_5 : decode cL_above 5 = .ok (.invokevirtual 70, 3) := by decide +kernel
theorem dL_above_8 : decode cL_above 8 = .ok (.i2l, 1) := by decide +kernel
theorem dL_above_9 : decode cL_above 9 = .ok (.lastore, 1) := by decide +kernel
theorem dL_above_10 : decode cL_above 10 = .ok (.goto 11, 3) := by decide +kernel
theorem dL_above_13 : decode cL_above 13 = .ok (.astore 4, 2) := by decide +kernel
theorem dL_above_15 : decode cL_above 15 = .ok (.iconst 1, 1) := by decide +kernel
theorem dL_above_16 : decode cL_above 16 = .ok (.ireturn, 1) := by decide +kernel
theorem dL_above_17 : decode cL_above 17 = .ok (.astore 4, 2) := by decide +kernel
theorem dL_above_19 : decode cL_above 19 = .ok (.iconst 2, 1) := by decide +kernel
theorem dL_above_20 : decode cL_above 20 = .ok (.ireturn, 1) := by decide +kernel
theorem dL_above_21 : decode cL_above 21 = .ok (.iconst 0, 1) := by decide +kernel
theorem dL_above_22 : decode cL_above 22 = .ok (.ireturn, 1) := by decide +kernel
set_option maxRecDepth 20000 in
theorem ggL_leftOf_X2_leftOf : GoodIn wsL_leftOf wsX2_leftOf := goodIn_ca (goodIn_ca (goodIn_r _ [7, 8, 9, 10, 11, 6, 12, 13, 14, 15, 16, 17, 18, 19, 20, 21, 22, 23, 24, 25, 26, 27, 28, 29, 30, 31, 32, 33, 34, 35, 36, 37, 38, 39, 40, 41, 42, 43, 44, 45, 46, 47, 48, 49, 50, 51, 52, 53] (by decide +kernel) (by decide +kernel)) (goodIn_sub (fun _ h => List.mem_cons_of_mem _ (List.mem_append_left _ (List.mem_append_right _ h))) (by decide +kernel))) (goodIn_sub (fun _ h => List.mem_cons_of_mem _ (List.mem_append_right _ h)) (by decide +kernel))
set_option maxRecDepth 20000 in
theorem gL_leftOf_X2_leftOf : GoodIn wsL_leftOf (wsV RL 73 RX2 yX2_leftOf wsX2_leftOf) := goodIn_app (goodIn_of _ (by decide +kernel)) ggL_leftOf_X2_leftOf
theorem dL_leftOf_0 : decode cL_leftOf 0 = .ok (.aload_n 3, 1) := by decide +kernel
theorem dL_leftOf_1 : decode cL_leftOf 1 = .ok (.iconst 0, 1) := by decide +kernel
theorem dL_leftOf_2 : decode cL_leftOf 2 = .ok (.aload_n 0, 1) := by decide +kernel
theorem dL_leftOf_3 : decode cL_leftOf 3 = .ok (.iload_n 1, 1) := by decide +kernel
theorem dL_leftOf_4 : decode cL_leftOf 4 = .ok (.iload_n 2, 1) := by decide +kernel
theorem dL_leftOf_5 : decode cL_leftOf 5 = .ok (.invokevirtual 73, 3) := by decide +kernel
theorem dL_leftOf_8 : decode cL_leftOf 8 = .ok (.i2l, 1) := by decide +kernel
theorem dL_leftOf_9 : decode cL_leftOf 9 = .ok (.lastore, 1) := by decide +kernel
theorem dL_leftOf_10 : decode cL_leftOf 10 = .ok (.goto 11, 3) := by decide +kernel
theorem dL_leftOf_13 : decode cL_leftOf 13 = .ok (.astore 4, 2) := by decide +kernel
theorem dL_leftOf_15 : decode cL_leftOf 15 = .ok (.iconst 1, 1) := by decide +kernel
theorem dL_leftOf_16 : decode cL_leftOf 16 = .ok (.ireturn, 1) := by decide +kernel
theorem dL_leftOf_17 : decode cL_leftOf 17 = .ok (.astore 4, 2) := by decide +kernel
theorem dL_leftOf_19 : decode cL_leftOf 19 = .ok (.iconst 2, 1) := by decide +kernel
theorem dL_leftOf_20 : decode cL_leftOf 20 = .ok (.ireturn, 1) := by decide +kernel
theorem dL_leftOf_21 : decode cL_leftOf 21 = .ok (.iconst 0, 1) := by decide +kernel
theorem dL_leftOf_22 : decode cL_leftOf 22 = .ok (.ireturn, 1) := by decide +kernel
set_option maxRecDepth 20000 in
theorem ggL_rightOf_X2_rightOf : GoodIn wsL_rightOf wsX2_rightOf := goodIn_ca (goodIn_ca (goodIn_r _ [7, 8, 9, 10, 11, 6, 12, 13, 14, 15, 16, 17, 18, 19, 20, 21, 22, 23, 24, 25, 26, 27, 28, 29, 30, 31, 32, 33, 34, 35, 36, 37, 38, 39, 40, 41, 42, 43, 44, 45, 46, 47, 48, 49, 50, 51, 52, 53] (by decide +kernel) (by decide +kernel)) (goodIn_sub (fun _ h => List.mem_cons_of_mem _ (List.mem_append_left _ (List.mem_append_right _ h))) (by decide +kernel))) (goodIn_sub (fun _ h => List.mem_cons_of_mem _ (List.mem_append_right _ h)) (by decide +kernel))
set_option maxRecDepth 20000 in
theorem gL_rightOf_X2_rightOf : GoodIn wsL_rightOf (wsV RL 76 RX2 yX2_rightOf wsX2_rightOf) := goodIn_app (goodIn_of _ (by decide +kernel)) ggL_rightOf_X2_rightOf
theorem dL_rightOf_0 : decode cL_rightOf 0 = .ok (.aload_n 3, 1) := by decide +kernel
theorem dL_rightOf_1 : decode cL_rightOf 1 = .ok (.iconst 0, 1) := by decide +kernel
theorem dL_rightOf_2 : decode cL_rightOf 2 = .ok (.aload_n 0, 1) := by decide +kernel
theorem dL_rightOf_3 : decode cL_rightOf 3 = .ok (.iload_n 1, 1) := by decide +kernel
theorem dL_rightOf_4 : decode cL_rightOf 4 = .ok (.iload_n 2, 1) := by decide +kernel
theorem dL_rightOf_5 : decode cL_rightOf 5 = .ok (.invokevirtual 76, 3) := by decide +kernel
theorem dL_rightOf_8 : decode cL_rightOf 8 = .ok (.i2l, 1) := by decide +kernel
theorem dL_rightOf_9 : decode cL_rightOf 9 = .ok (.lastore, 1) := by decide +kernel
theorem dL_rightOf_10 : decode cL_rightOf 10 = .ok (.goto 11, 3) := by decide +kernel
theorem dL_rightOf_13 : decode cL_rightOf 13 = .ok (.astore 4, 2) := by decide +kernel
theorem dL_rightOf_15 : decode cL_rightOf 15 = .ok (.iconst 1, 1) := by decide +kernel
theorem dL_rightOf_16 : decode cL_rightOf 16 = .ok (.ireturn, 1) := by decide +kernel
theorem dL_rightOf_17 : decode cL_rightOf 17 = .ok (.astore 4, 2) := by decide +kernel
theorem dL_rightOf_19 : decode cL_rightOf 19 = .ok (.iconst 2, 1) := by decide +kernel
theorem dL_rightOf_20 : decode cL_rightOf 20 = .ok (.ireturn, 1) := by decide +kernel
theorem dL_rightOf_21 : decode cL_rightOf 21 = .ok (.iconst 0, 1) := by decide +kernel
theorem dL_rightOf_22 : decode cL_rightOf 22 = .ok (.ireturn, 1) := by decide +kernel
set_option maxRecDepth 20000 in
theorem ggL_below_X2_below : GoodIn wsL_below wsX2_below := goodIn_ca (goodIn_ca (goodIn_r _ [7, 8, 9, 10, 6, 11, 12, 13, 14, 15, 16, 17, 18, 19, 20, 21, 22, 23, 24, 25, 26, 27, 28, 29, 30, 31, 32, 33, 34, 35, 36, 37, 38, 39, 40, 41, 42, 43, 44, 45, 46, 47, 48, 49, 50, 51, 52, 53, 54, 55, 56, 57, 58, 59, 60, 61, 62, 63, 64, 65] (by decide +kernel) (by decide +kernel)) (goodIn_sub (fun _ h => List.mem_cons_of_mem _ (List.mem_append_left _ (List.mem_append_right _ h))) (by decide +kernel))) (goodIn_sub (fun _ h => List.mem_cons_of_mem _ (List.mem_append_right _ h)) (by decide +kernel))
set_option maxRecDepth 20000 in
theorem gL_below_X2_below : GoodIn wsL_below (wsV RL 79 RX2 yX2_below wsX2_below) := goodIn_app (goodIn_of _ (by decide +kernel)) ggL_below_X2_below
theorem dL_below_0 : decode cL_below 0 = .ok (.aload_n 3, 1) := by decide +kernel
theorem dL_below_1 : decode cL_below 1 = .ok (.iconst 0, 1) := by decide +kernel
theorem dL_below_2 : decode cL_below 2 = .ok (.aload_n 0, 1) := by decide +kernel
theorem dL_below_3 : decode cL_below 3 = .ok (.iload_n 1, 1) := by decide +kernel
theorem dL_below_4 : decode cL_below 4 = .ok (.iload_n 2, 1) := by decide +kernel
theorem dL_below_5 : decode cL_below 5 = .ok (.invokevirtual 79, 3) := by decide +kernel
theorem dL_below_8 : decode cL_below 8 = .ok (.i2l, 1) := by decide +kernel
theorem dL_below_9 : decode cL_below 9 = .ok (.lastore, 1) := by decide +kernel
theorem dL_below_10 : decode cL_below 10 = .ok (.goto 11, 3) := by decide +kernel
theorem dL_below_13 : decode cL_below 13 = .ok (.astore 4, 2) := by decide +kernel
theorem dL_below_15 : decode cL_below 15 = .ok (.iconst 1, 1) := by decide +kernel
theorem dL_below_16 : decode cL_below 16 = .ok (.ireturn, 1) := by decide +kernel
theorem dL_below_17 : decode cL_below 17 = .ok (.astore 4, 2) := by decide +kernel
theorem dL_below_19 : decode cL_below 19 = .ok (.iconst 2, 1) := by decide +kernel
theorem dL_below_20 : decode cL_below 20 = .ok (.ireturn, 1) := by decide +kernel
theorem dL_below_21 : decode cL_below 21 = .ok (.iconst 0, 1) := by decide +kernel
theorem dL_below_22 : decode cL_below 22 = .ok (.ireturn, 1) := by decide +kernel
set_option maxRecDepth 20000 in
theorem ggL_eaten_X2_eaten : GoodIn wsL_eaten wsX2_eaten := goodIn_ca (goodIn_ca (goodIn_r _ [7, 8, 9, 10, 11, 6, 12, 13, 14, 15, 16, 17, 18, 19, 20, 21, 22, 23, 24, 25, 26, 27, 28, 29, 30, 31, 32, 33, 34, 35, 36, 37, 38, 39, 40, 41, 42, 43, 44, 45, 46, 47, 48, 49] (by decide +kernel) (by decide +kernel)) (goodIn_sub (fun _ h => List.mem_cons_of_mem _ (List.mem_append_left _ (List.mem_append_right _ h))) (by decide +kernel))) (goodIn_sub (fun _ h => List.mem_cons_of_mem _ (List.mem_append_right _ h)) (by decide +kernel))
set_option maxRecDepth 20000 in
theorem gL_eaten_X2_eaten : GoodIn wsL_eaten (wsV RL 82 RX2 yX2_eaten wsX2_eaten) := goodIn_app (goodIn_of _ (by decide +kernel)) ggL_eaten_X2_eaten
theorem dL_eaten_0 : decode cL_eaten 0 = .ok (.aload_n 3, 1) := by decide +kernel
theorem dL_eaten_1 : decode cL_eaten 1 = .ok (.iconst 0, 1) := by decide +kernel
theorem dL_eaten_2 : decode cL_eaten 2 = .ok (.aload_n 0, 1) := by decide +kernel
theorem dL_eaten_3 : decode cL_eaten 3 = .ok (.iload_n 1, 1) := by decide +kernel
theorem dL_eaten_4 : decode cL_eaten 4 = .ok (.iload_n 2, 1) := by decide +kernel
theorem dL_eaten_5 : decode cL_eaten 5 = .ok (.invokevirtual 82, 3) := by decide +kernel
theorem dL_eaten_8 : decode cL_eaten 8 = .ok (.i2l, 1) := by decide +kernel
theorem dL_eaten_9 : decode cL_eaten 9 = .ok (.lastore, 1) := by decide +kernel
theorem dL_eaten_10 : decode cL_eaten 10 = .ok (.goto 11, 3) := by decide +kernel
theorem dL_eaten_13 : decode cL_eaten 13 = .ok (.astore 4, 2) := by decide +kernel
theorem dL_eaten_15 : decode cL_eaten 15 = .ok (.iconst 1, 1) := by decide +kernel
theorem dL_eaten_16 : decode cL_eaten 16 = .ok (.ireturn, 1) := by decide +kernel
theorem dL_eaten_17 : decode cL_eaten 17 = .ok (.astore 4, 2) := by decide +kernel
theorem dL_eaten_19 : decode cL_eaten 19 = .ok (.iconst 2, 1) := by decide +kernel
theorem dL_eaten_20 : decode cL_eaten 20 = .ok (.ireturn, 1) := by decide +kernel
theorem dL_eaten_21 : decode cL_eaten 21 = .ok (.iconst 0, 1) := by decide +kernel
theorem dL_eaten_22 : decode cL_eaten 22 = .ok (.ireturn, 1) := by decide +kernel
set_option maxRecDepth 20000 in
theorem ggL_favourite_X2_favourite : GoodIn wsL_favourite wsX2_favourite := goodIn_ca (goodIn_r _ [6, 7, 8, 9, 5, 10, 11, 12, 13, 14, 15, 16, 17, 18, 19, 20, 21, 22, 23, 24, 25, 26, 27, 28, 29, 30, 31, 32, 33, 34, 35, 36, 37, 38, 39, 40, 41, 42, 43, 44, 45, 46, 47, 48, 49, 50, 51] (by decide +kernel) (by decide +kernel)) (goodIn_sub (fun _ h => List.mem_cons_of_mem _ (List.mem_append_right _ h)) (by decide +kernel))
set_option maxRecDepth 20000 in
theorem gL_favourite_X2_favourite : GoodIn wsL_favourite (wsV RL 85 RX2 yX2_favourite wsX2_favourite) := goodIn_app (goodIn_of _ (by decide +kernel)) ggL_favourite_X2_favourite
theorem dL_favourite_0 : decode cL_favourite 0 = .ok (.aload_n 2, 1) := by decide +kernel
theorem dL_favourite_1 : decode cL_favourite 1 = .ok (.iconst 0, 1) := by decide +kernel
theorem dL_favourite_2 : decode cL_favourite 2 = .ok (.aload_n 0, 1) := by decide +kernel
theorem dL_favourite_3 : decode cL_favourite 3 = .ok (.iload_n 1, 1) := by decide +kernel
theorem dL_favourite_4 : decode cL_favourite 4 = .ok (.invokevirtual 85, 3) := by decide +kernel
theorem dL_favourite_7 : decode cL_favourite 7 = .ok (.i2l, 1) := by decide +kernel
theorem dL_favourite_8 : decode cL_favourite 8 = .ok (.lastore, 1) := by decide +kernel
theorem dL_favourite_9 : decode cL_favourite 9 = .ok (.goto 6, 3) := by decide +kernel
theorem dL_favourite_12 : decode cL_favourite 12 = .ok (.astore_n 3, 1) := by decide +kernel
theorem dL_favourite_13 : decode cL_favourite 13 = .ok (.iconst 1, 1) := by decide +kernel
theorem dL_favourite_14 : decode cL_favourite 14 = .ok (.ireturn, 1) := by decide +kernel
theorem dL_favourite_15 : decode cL_favourite 15 = .ok (.iconst 0, 1) := by decide +kernel
theorem dL_favourite_16 : decode cL_favourite 16 = .ok (.ireturn, 1) := by decide +kernel
set_option maxRecDepth 20000 in
theorem ggL_meet_X2_meet : GoodIn wsL_meet wsX2_meet := goodIn_ca (goodIn_ca (goodIn_r _ [7, 8, 9, 10, 6, 11, 12, 13, 14, 15, 16, 17, 18, 19, 20, 21, 22, 23, 24, 25, 26, 27, 28, 29, 30, 31, 32, 33, 34, 35, 36, 37, 38, 39, 40, 41, 42, 43, 44, 45, 46, 47, 48, 49, 50, 51, 52, 53, 54, 55, 56, 57, 58, 59, 60, 61, 62, 63] (by decide +kernel) (by decide +kernel)) (goodIn_sub (fun _ h => List.mem_cons_of_mem _ (List.mem_append_left _ (List.mem_append_right _ h))) (by decide +kernel))) (goodIn_sub (fun _ h => List.mem_cons_of_mem _ (List.mem_append_right _ h)) (by decide +kernel))
set_option maxRecDepth 20000 in
theorem gL_meet_X2_meet : GoodIn wsL_meet (wsV RL 88 RX2 yX2_meet wsX2_meet) := goodIn_app (goodIn_of _ (by decide +kernel)) ggL_meet_X2_meet
theorem dL_meet_0 : decode cL_meet 0 = .ok (.aload 4, 2) := by decide +kernel
theorem dL_meet_2 : decode cL_meet 2 = .ok (.iconst 0, 1) := by decide +kernel
theorem dL_meet_3 : decode cL_meet 3 = .ok (.aload_n 0, 1) := by decide +kernel
theorem dL_meet_4 : decode cL_meet 4 = .ok (.iload_n 1, 1) := by decide +kernel
theorem dL_meet_5 : decode cL_meet 5 = .ok (.iload_n 2, 1) := by decide +kernel
theorem dL_meet_6 : decode cL_meet 6 = .ok (.iload_n 3, 1) := by decide +kernel
theorem dL_meet_7 : decode cL_meet 7 = .ok (.invokevirtual 88, 3) := by decide +kernel
theorem dL_meet_10 : decode cL_meet 10 = .ok (.i2l, 1) := by decide +kernel
theorem dL_meet_11 : decode cL_meet 11 = .ok (.lastore, 1) := by decide +kernel
theorem dL_meet_12 : decode cL_meet 12 = .ok (.goto 11, 3) := by decide +kernel
theorem dL_meet_15 : decode cL_meet 15 = .ok (.astore 5, 2) := by decide +kernel
theorem dL_meet_17 : decode cL_meet 17 = .ok (.iconst 1, 1) := by decide +kernel
theorem dL_meet_18 : decode cL_meet 18 = .ok (.ireturn, 1) := by decide +kernel
theorem dL_meet_19 : decode cL_meet 19 = .ok (.astore 5, 2) := by decide +kernel
theorem dL_meet_21 : decode cL_meet 21 = .ok (.iconst 2, 1) := by decide +kernel
theorem dL_meet_22 : decode cL_meet 22 = .ok (.ireturn, 1) := by decide +kernel
theorem dL_meet_23 : decode cL_meet 23 = .ok (.iconst 0, 1) := by decide +kernel
theorem dL_meet_24 : decode cL_meet 24 = .ok (.ireturn, 1) := by decide +kernel
set_option maxRecDepth 20000 in
theorem ggL_depthBehind_X2_depthBehind : GoodIn wsL_depthBehind wsX2_depthBehind := goodIn_ca (goodIn_ca (goodIn_r _ [7, 8, 9, 10, 11, 6, 12, 13, 14, 15, 16, 17, 18, 19, 20, 21, 22, 23, 24, 25, 26, 27, 28, 29, 30, 31, 32, 33, 34, 35, 36, 37, 38, 39, 40, 41, 42, 43, 44, 45, 46, 47, 48, 49, 50, 51, 52, 53, 54, 55, 56, 57, 58, 59, 60, 61, 62, 63, 64, 65, 66, 67, 68, 69, 70, 71, 72, 73, 74, 75, 76, 77, 78, 79, 80, 81, 82, 83, 84, 85, 86, 87, 88, 89, 90, 91, 92, 93, 94, 95, 96, 97, 98, 99, 100, 101, 102, 103, 104, 105, 106, 107, 108] (by decide +kernel) (by decide +kernel)) (goodIn_sub (fun _ h => List.mem_cons_of_mem _ (List.mem_append_left _ (List.mem_append_right _ h))) (by decide +kernel))) (goodIn_sub (fun _ h => List.mem_cons_of_mem _ (List.mem_append_right _ h)) (by decide +kernel))
set_option maxRecDepth 20000 in
theorem gL_depthBehind_X2_depthBehind : GoodIn wsL_depthBehind (wsV RL 91 RX2 yX2_depthBehind wsX2_depthBehind) := goodIn_app (goodIn_of _ (by decide +kernel)) ggL_depthBehind_X2_depthBehind
theorem dL_depthBehind_0 : decode cL_depthBehind 0 = .ok (.aload 4, 2) := by decide +kernel
theorem dL_depthBehind_2 : decode cL_depthBehind 2 = .ok (.iconst 0, 1) := by decide +kernel
theorem dL_depthBehind_3 : decode cL_depthBehind 3 = .ok (.aload_n 0, 1) := by decide +kernel
theorem dL_depthBehind_4 : decode cL_depthBehind 4 = .ok (.iload_n 1, 1) := by decide +kernel
theorem dL_depthBehind_5 : decode cL_depthBehind 5 = .ok (.iload_n 2, 1) := by decide +kernel
theorem dL_depthBehind_6 : decode cL_depthBehind 6 = .ok (.iload_n 3, 1) := by decide +kernel
theorem dL_depthBehind_7 : decode cL_depthBehind 7 = .ok (.invokevirtual 91, 3) := by decide +kernel
theorem dL_depthBehind_10 : decode cL_depthBehind 10 = .ok (.i2l, 1) := by decide +kernel
theorem dL_depthBehind_11 : decode cL_depthBehind 11 = .ok (.lastore, 1) := by decide +kernel
theorem dL_depthBehind_12 : decode cL_depthBehind 12 = .ok (.goto 11, 3) := by decide +kernel
theorem dL_depthBehind_15 : decode cL_depthBehind 15 = .ok (.astore 5, 2) := by decide +kernel
theorem dL_depthBehind_17 : decode cL_depthBehind 17 = .ok (.iconst 1, 1) := by decide +kernel
theorem dL_depthBehind_18 : decode cL_depthBehind 18 = .ok (.ireturn, 1) := by decide +kernel
theorem dL_depthBehind_19 : decode cL_depthBehind 19 = .ok (.astore 5, 2) := by decide +kernel
theorem dL_depthBehind_21 : decode cL_depthBehind 21 = .ok (.iconst 2, 1) := by decide +kernel
theorem dL_depthBehind_22 : decode cL_depthBehind 22 = .ok (.ireturn, 1) := by decide +kernel
theorem dL_depthBehind_23 : decode cL_depthBehind 23 = .ok (.iconst 0, 1) := by decide +kernel
theorem dL_depthBehind_24 : decode cL_depthBehind 24 = .ok (.ireturn, 1) := by decide +kernel
set_option maxRecDepth 20000 in
theorem ggL_heightBehind_X2_heightBehind : GoodIn wsL_heightBehind wsX2_heightBehind := goodIn_ca (goodIn_ca (goodIn_r _ [7, 8, 9, 10, 11, 6, 12, 13, 14, 15, 16, 17, 18, 19, 20, 21, 22, 23, 24, 25, 26, 27, 28, 29, 30, 31, 32, 33, 34, 35, 36, 37, 38, 39, 40, 41, 42, 43, 44, 45, 46, 47, 48, 49, 50, 51, 52, 53, 54, 55, 56, 57, 58, 59, 60, 61, 62, 63, 64, 65, 66, 67, 68, 69, 70, 71, 72, 73, 74, 75, 76, 77, 78, 79, 80, 81, 82, 83, 84, 85, 86, 87, 88, 89, 90, 91, 92, 93, 94, 95, 96, 97, 98, 99, 100, 101, 102, 103, 104, 105, 106, 107, 108, 109, 110, 111, 112, 113, 114, 115] (by decide +kernel) (by decide +kernel)) (goodIn_sub (fun _ h => List.mem_cons_of_mem _ (List.mem_append_left _ (List.mem_append_right _ h))) (by decide +kernel))) (goodIn_sub (fun _ h => List.mem_cons_of_mem _ (List.mem_append_right _ h)) (by decide +kernel))
set_option maxRecDepth 20000 in
theorem gL_heightBehind_X2_heightBehind : GoodIn wsL_heightBehind (wsV RL 94 RX2 yX2_heightBehind wsX2_heightBehind) := goodIn_app (goodIn_of _ (by decide +kernel)) ggL_heightBehind_X2_heightBehind
theorem dL_heightBehind_0 : decode cL_heightBehind 0 = .ok (.aload_n 3, 1) := by decide +kernel
theorem dL_heightBehind_1 : decode cL_heightBehind 1 = .ok (.iconst 0, 1) := by decide +kernel
theorem dL_heightBehind_2 : decode cL_heightBehind 2 = .ok (.aload_n 0, 1) := by decide +kernel
theorem dL_heightBehind_3 : decode cL_heightBehind 3 = .ok (.iload_n 1, 1) := by decide +kernel
theorem dL_heightBehind_4 : decode cL_heightBehind 4 = .ok (.iload_n 2, 1) := by decide +kernel
theorem dL_heightBehind_5 : decode cL_heightBehind 5 = .ok (.invokevirtual 94, 3) := by decide +kernel
theorem dL_heightBehind_8 : decode cL_heightBehind 8 = .ok (.i2l, 1) := by decide +kernel
theorem dL_heightBehind_9 : decode cL_heightBehind 9 = .ok (.lastore, 1) := by decide +kernel
theorem dL_heightBehind_10 : decode cL_heightBehind 10 = .ok (.goto 11, 3) := by decide +kernel
theorem dL_heightBehind_13 : decode cL_heightBehind 13 = .ok (.astore 4, 2) := by decide +kernel
theorem dL_heightBehind_15 : decode cL_heightBehind 15 = .ok (.iconst 1, 1) := by decide +kernel
theorem dL_heightBehind_16 : decode cL_heightBehind 16 = .ok (.ireturn, 1) := by decide +kernel
theorem dL_heightBehind_17 : decode cL_heightBehind 17 = .ok (.astore 4, 2) := by decide +kernel
theorem dL_heightBehind_19 : decode cL_heightBehind 19 = .ok (.iconst 2, 1) := by decide +kernel
theorem dL_heightBehind_20 : decode cL_heightBehind 20 = .ok (.ireturn, 1) := by decide +kernel
theorem dL_heightBehind_21 : decode cL_heightBehind 21 = .ok (.iconst 0, 1) := by decide +kernel
theorem dL_heightBehind_22 : decode cL_heightBehind 22 = .ok (.ireturn, 1) := by decide +kernel
set_option maxRecDepth 20000 in
theorem ggL_bestToEat_X2_bestToEat : GoodIn wsL_bestToEat wsX2_bestToEat := goodIn_ca (goodIn_r _ [6, 7, 8, 9, 10, 5, 11, 12, 13, 14, 15, 16, 17, 18, 19, 20, 21, 22, 23, 24, 25, 26, 27, 28, 29, 30, 31, 32, 33, 34, 35, 36, 37, 38, 39, 40, 41, 42, 43, 44, 45, 46, 47, 48, 49, 50, 51, 52, 53, 54, 55, 56, 57, 58, 59, 60, 61, 62, 63, 64, 65, 66, 67, 68, 69, 70, 71, 72, 73, 74, 75, 76, 77, 78, 79, 80, 81, 82, 83, 84, 85, 86, 87, 88, 89, 90, 91, 92, 93, 94, 95, 96, 97] (by decide +kernel) (by decide +kernel)) (goodIn_sub (fun _ h => List.mem_cons_of_mem _ (List.mem_append_right _ h)) (by decide +kernel))
set_option maxRecDepth 20000 in
theorem gL_bestToEat_X2_bestToEat : GoodIn wsL_bestToEat (wsV RL 97 RX2 yX2_bestToEat wsX2_bestToEat) := goodIn_app (goodIn_of _ (by decide +kernel)) ggL_bestToEat_X2_bestToEat
theorem dL_bestToEat_0 : decode cL_bestToEat 0 = .ok (.aload_n 2, 1) := by decide +kernel
theorem dL_bestToEat_1 : decode cL_bestToEat 1 = .ok (.iconst 0, 1) := by decide +kernel
theorem dL_bestToEat_2 : decode cL_bestToEat 2 = .ok (.aload_n 0, 1) := by decide +kernel
theorem dL_bestToEat_3 : decode cL_bestToEat 3 = .ok (.iload_n 1, 1) := by decide +kernel
theorem dL_bestToEat_4 : decode cL_bestToEat 4 = .ok (.invokevirtual 97, 3) := by decide +kernel
theorem dL_bestToEat_7 : decode cL_bestToEat 7 = .ok (.i2l, 1) := by decide +kernel
theorem dL_bestToEat_8 : decode cL_bestToEat 8 = .ok (.lastore, 1) := by decide +kernel
theorem dL_bestToEat_9 : decode cL_bestToEat 9 = .ok (.goto 6, 3) := by decide +kernel
theorem dL_bestToEat_12 : decode cL_bestToEat 12 = .ok (.astore_n 3, 1) := by decide +kernel
theorem dL_bestToEat_13 : decode cL_bestToEat 13 = .ok (.iconst 1, 1) := by decide +kernel
theorem dL_bestToEat_14 : decode cL_bestToEat 14 = .ok (.ireturn, 1) := by decide +kernel
theorem dL_bestToEat_15 : decode cL_bestToEat 15 = .ok (.iconst 0, 1) := by decide +kernel
theorem dL_bestToEat_16 : decode cL_bestToEat 16 = .ok (.ireturn, 1) := by decide +kernel
set_option maxRecDepth 20000 in
theorem ggL_plantDepth_X2_plantDepth : GoodIn wsL_plantDepth wsX2_plantDepth := goodIn_ca (goodIn_ca (goodIn_r _ [7, 8, 9, 10, 11, 6, 12, 13, 14, 15, 16, 17, 18, 19, 20, 21, 22, 23, 24, 25, 26, 27, 28, 29, 30, 31, 32, 33, 34, 35, 36, 37, 38, 39, 40, 41, 42, 43, 44, 45, 46, 47, 48, 49] (by decide +kernel) (by decide +kernel)) (goodIn_sub (fun _ h => List.mem_cons_of_mem _ (List.mem_append_left _ (List.mem_append_right _ h))) (by decide +kernel))) (goodIn_sub (fun _ h => List.mem_cons_of_mem _ (List.mem_append_right _ h)) (by decide +kernel))
set_option maxRecDepth 20000 in
theorem gL_plantDepth_X2_plantDepth : GoodIn wsL_plantDepth (wsV RL 100 RX2 yX2_plantDepth wsX2_plantDepth) := goodIn_app (goodIn_of _ (by decide +kernel)) ggL_plantDepth_X2_plantDepth
theorem dL_plantDepth_0 : decode cL_plantDepth 0 = .ok (.aload_n 3, 1) := by decide +kernel
theorem dL_plantDepth_1 : decode cL_plantDepth 1 = .ok (.iconst 0, 1) := by decide +kernel
theorem dL_plantDepth_2 : decode cL_plantDepth 2 = .ok (.aload_n 0, 1) := by decide +kernel
theorem dL_plantDepth_3 : decode cL_plantDepth 3 = .ok (.iload_n 1, 1) := by decide +kernel
theorem dL_plantDepth_4 : decode cL_plantDepth 4 = .ok (.iload_n 2, 1) := by decide +kernel
theorem dL_plantDepth_5 : decode cL_plantDepth 5 = .ok (.invokevirtual 100, 3) := by decide +kernel
theorem dL_plantDepth_8 : decode cL_plantDepth 8 = .ok (.i2l, 1) := by decide +kernel
theorem dL_plantDepth_9 : decode cL_plantDepth 9 = .ok (.lastore, 1) := by decide +kernel
theorem dL_plantDepth_10 : decode cL_plantDepth 10 = .ok (.goto 11, 3) := by decide +kernel
theorem dL_plantDepth_13 : decode cL_plantDepth 13 = .ok (.astore 4, 2) := by decide +kernel
theorem dL_plantDepth_15 : decode cL_plantDepth 15 = .ok (.iconst 1, 1) := by decide +kernel
theorem dL_plantDepth_16 : decode cL_plantDepth 16 = .ok (.ireturn, 1) := by decide +kernel
theorem dL_plantDepth_17 : decode cL_plantDepth 17 = .ok (.astore 4, 2) := by decide +kernel
theorem dL_plantDepth_19 : decode cL_plantDepth 19 = .ok (.iconst 2, 1) := by decide +kernel
theorem dL_plantDepth_20 : decode cL_plantDepth 20 = .ok (.ireturn, 1) := by decide +kernel
theorem dL_plantDepth_21 : decode cL_plantDepth 21 = .ok (.iconst 0, 1) := by decide +kernel
theorem dL_plantDepth_22 : decode cL_plantDepth 22 = .ok (.ireturn, 1) := by decide +kernel
set_option maxRecDepth 20000 in
theorem ggL_canJoin_X2_canJoin : GoodIn wsL_canJoin wsX2_canJoin := goodIn_ca (goodIn_r _ [6, 7, 8, 9, 5, 10, 11, 12, 13, 14, 15, 16, 17, 18, 19, 20, 21, 22, 23, 24, 25, 26, 27, 28, 29, 30, 31, 32, 33, 34, 35, 36, 37, 38, 39, 40, 41, 42, 43, 44, 45, 46, 47, 48] (by decide +kernel) (by decide +kernel)) (goodIn_sub (fun _ h => List.mem_cons_of_mem _ (List.mem_append_right _ h)) (by decide +kernel))
set_option maxRecDepth 20000 in
theorem gL_canJoin_X2_canJoin : GoodIn wsL_canJoin (wsV RL 103 RX2 yX2_canJoin wsX2_canJoin) := goodIn_app (goodIn_of _ (by decide +kernel)) ggL_canJoin_X2_canJoin
theorem dL_canJoin_0 : decode cL_canJoin 0 = .ok (.aload_n 3, 1) := by decide +kernel
theorem dL_canJoin_1 : decode cL_canJoin 1 = .ok (.iconst 0, 1) := by decide +kernel
theorem dL_canJoin_2 : decode cL_canJoin 2 = .ok (.aload_n 0, 1) := by decide +kernel
theorem dL_canJoin_3 : decode cL_canJoin 3 = .ok (.iload_n 1, 1) := by decide +kernel
theorem dL_canJoin_4 : decode cL_canJoin 4 = .ok (.iload_n 2, 1) := by decide +kernel
theorem dL_canJoin_5 : decode cL_canJoin 5 = .ok (.invokevirtual 103, 3) := by decide +kernel
theorem dL_canJoin_8 : decode cL_canJoin 8 = .ok (.ifCond .eq 7, 3) := by decide +kernel
theorem dL_canJoin_11 : decode cL_canJoin 11 = .ok (.lconst 1, 1) := by decide +kernel
theorem dL_canJoin_12 : decode cL_canJoin 12 = .ok (.goto 4, 3) := by decide +kernel
theorem dL_canJoin_15 : decode cL_canJoin 15 = .ok (.lconst 0, 1) := by decide +kernel
theorem dL_canJoin_16 : decode cL_canJoin 16 = .ok (.lastore, 1) := by decide +kernel
theorem dL_canJoin_17 : decode cL_canJoin 17 = .ok (.goto 7, 3) := by decide +kernel
theorem dL_canJoin_20 : decode cL_canJoin 20 = .ok (.astore 4, 2) := by decide +kernel
theorem dL_canJoin_22 : decode cL_canJoin 22 = .ok (.iconst 1, 1) := by decide +kernel
theorem dL_canJoin_23 : decode cL_canJoin 23 = .ok (.ireturn, 1) := by decide +kernel
theorem dL_canJoin_24 : decode cL_canJoin 24 = .ok (.iconst 0, 1) := by decide +kernel
theorem dL_canJoin_25 : decode cL_canJoin 25 = .ok (.ireturn, 1) := by decide +kernel
set_option maxRecDepth 20000 in
theorem ggL_meanDepth_X2_meanDepth : GoodIn wsL_meanDepth wsX2_meanDepth := goodIn_ca (goodIn_r _ [6, 7, 8, 9, 5, 10, 11, 12, 13, 14, 15, 16, 17, 18, 19, 20, 21, 22, 23, 24, 25, 26, 27, 28, 29, 30, 31, 32, 33, 34, 35, 36, 37, 38, 39, 40, 41, 42, 43, 44, 45, 46, 47, 48, 49, 50, 51, 52, 53, 54, 55, 56, 57, 58, 59, 60, 61, 62, 63] (by decide +kernel) (by decide +kernel)) (goodIn_sub (fun _ h => List.mem_cons_of_mem _ (List.mem_append_right _ h)) (by decide +kernel))
set_option maxRecDepth 20000 in
theorem gL_meanDepth_X2_meanDepth : GoodIn wsL_meanDepth (wsV RL 106 RX2 yX2_meanDepth wsX2_meanDepth) := goodIn_app (goodIn_of _ (by decide +kernel)) ggL_meanDepth_X2_meanDepth
theorem dL_meanDepth_0 : decode cL_meanDepth 0 = .ok (.aload_n 2, 1) := by decide +kernel
theorem dL_meanDepth_1 : decode cL_meanDepth 1 = .ok (.iconst 0, 1) := by decide +kernel
theorem dL_meanDepth_2 : decode cL_meanDepth 2 = .ok (.aload_n 0, 1) := by decide +kernel
theorem dL_meanDepth_3 : decode cL_meanDepth 3 = .ok (.iload_n 1, 1) := by decide +kernel
theorem dL_meanDepth_4 : decode cL_meanDepth 4 = .ok (.invokevirtual 106, 3) := by decide +kernel
theorem dL_meanDepth_7 : decode cL_meanDepth 7 = .ok (.dastore, 1) := by decide +kernel
theorem dL_meanDepth_8 : decode cL_meanDepth 8 = .ok (.goto 6, 3) := by decide +kernel
theorem dL_meanDepth_11 : decode cL_meanDepth 11 = .ok (.astore_n 3, 1) := by decide +kernel
theorem dL_meanDepth_12 : decode cL_meanDepth 12 = .ok (.iconst 1, 1) := by decide +kernel
theorem dL_meanDepth_13 : decode cL_meanDepth 13 = .ok (.ireturn, 1) := by decide +kernel
theorem dL_meanDepth_14 : decode cL_meanDepth 14 = .ok (.iconst 0, 1) := by decide +kernel
theorem dL_meanDepth_15 : decode cL_meanDepth 15 = .ok (.ireturn, 1) := by decide +kernel
set_option maxRecDepth 20000 in
theorem ggL_law_X2_init : GoodIn wsL_law wsX2_init := goodIn_r _ [10, 11, 12, 13, 14, 15, 16, 17, 18, 19, 20, 21, 761, 762, 763, 770] (by decide +kernel) (by decide +kernel)
set_option maxRecDepth 20000 in
theorem gL_law_X2_init : GoodIn wsL_law (wsX2_init) := ggL_law_X2_init
set_option maxRecDepth 20000 in
theorem ggL_law_X3_init : GoodIn wsL_law wsX3_init := goodIn_r _ [24, 25, 12, 13, 26, 27, 28, 764, 765, 766, 767, 768, 769] (by decide +kernel) (by decide +kernel)
set_option maxRecDepth 20000 in
theorem gL_law_X3_init : GoodIn wsL_law (wsX3_init) := ggL_law_X3_init
set_option maxRecDepth 20000 in
theorem ggL_law_L_plant : GoodIn wsL_law wsL_plant := goodIn_ca (goodIn_ca (goodIn_ca (goodIn_r _ [32, 33, 34, 35, 36, 37, 38, 2, 39, 40, 41, 42, 43, 44, 45, 46, 47, 48, 49, 50, 15, 51, 52, 53, 54, 55, 56, 57, 58, 59, 60, 61, 62, 17, 63, 64, 65, 66, 67, 68, 69, 70, 71, 72, 73, 74, 75, 76, 77, 78, 79, 80, 81, 82, 83, 84, 85, 86, 87, 88, 89, 90, 91, 92, 93, 94, 95, 96, 97, 98, 99, 100, 101, 12, 13, 102, 103, 104, 105, 106, 107, 108, 109, 110, 111, 112, 113, 114, 115, 116, 117, 118, 119, 120, 121, 122, 123, 124, 125, 126, 127, 128, 129, 130, 131, 132, 133, 134, 135, 136, 137, 138, 139, 140, 141, 142, 143, 771, 772, 773, 774, 775, 776, 761, 762, 763, 770] (by decide +kernel) (by decide +kernel)) (goodIn_sub (fun _ h => List.mem_append_left _ (List.mem_append_left _ (List.mem_append_right _ h))) (by decide +kernel))) (goodIn_sub (fun _ h => List.mem_append_left _ (List.mem_append_right _ h)) (by decide +kernel))) (goodIn_sub (fun _ h => List.mem_append_right _ h) (by decide +kernel))
set_option maxRecDepth 20000 in
theorem gL_law_L_plant : GoodIn wsL_law (va_wsS RL 114 yL_plant wsL_plant) := goodIn_app (goodIn_of _ (by decide +kernel)) ggL_law_L_plant
set_option maxRecDepth 20000 in
theorem ggL_law_X3_plant : GoodIn wsL_law wsX3_plant := goodIn_r _ [147, 148, 149, 150, 151, 5, 152, 153, 154, 155, 156, 157, 158, 159, 160, 161, 162, 163, 27, 164, 165, 166, 167, 168, 169, 170, 171, 172, 173, 174, 175, 176, 177, 178, 179, 180, 181, 182, 183, 184, 185, 186, 187, 188, 189, 190, 191, 192, 193, 194, 195, 196, 197, 198, 199, 764, 765, 766, 767, 768, 769] (by decide +kernel) (by decide +kernel)
set_option maxRecDepth 20000 in
theorem gL_law_X3_plant : GoodIn wsL_law (wsV RL 119 RX3 yX3_plant wsX3_plant) := goodIn_app (goodIn_of _ (by decide +kernel)) ggL_law_X3_plant
set_option maxRecDepth 20000 in
theorem ggL_law_X3_thrown : GoodIn wsL_law wsX3_thrown := goodIn_r _ [203, 148, 764, 765, 766, 767, 768, 769] (by decide +kernel) (by decide +kernel)
set_option maxRecDepth 20000 in
theorem gL_law_X3_thrown : GoodIn wsL_law (wsV RL 120 RX3 yX3_thrown wsX3_thrown) := goodIn_app (goodIn_of _ (by decide +kernel)) ggL_law_X3_thrown
set_option maxRecDepth 20000 in
theorem ggL_law_L_eat : GoodIn wsL_law wsL_eat := goodIn_ca (goodIn_ca (goodIn_r _ [206, 33, 35, 207, 208, 209, 2, 210, 211, 45, 46, 47, 48, 49, 50, 15, 212, 213, 214, 40, 41, 84, 85, 86, 17, 87, 88, 89, 90, 91, 92, 64, 93, 94, 95, 44, 96, 97, 78, 73, 120, 121, 122, 123, 124, 125, 126, 127, 128, 111, 129, 130, 131, 132, 83, 133, 134, 135, 136, 137, 138, 139, 140, 141, 142, 113, 114, 115, 143, 117, 118, 119, 771, 772, 773, 774, 775, 776, 761, 762, 763, 770] (by decide +kernel) (by decide +kernel)) (goodIn_sub (fun _ h => List.mem_append_left _ (List.mem_append_right _ h)) (by decide +kernel))) (goodIn_sub (fun _ h => List.mem_append_left _ (List.mem_append_left _ (List.mem_append_right _ h))) (by decide +kernel))
set_option maxRecDepth 20000 in
theorem gL_law_L_eat : GoodIn wsL_law (va_wsS RL 124 yL_eat wsL_eat) := goodIn_app (goodIn_of _ (by decide +kernel)) ggL_law_L_eat
set_option maxRecDepth 20000 in
theorem ggL_law_X3_eat : GoodIn wsL_law wsX3_eat := goodIn_r _ [218, 148, 150, 151, 5, 152, 153, 154, 155, 156, 160, 161, 162, 163, 27, 219, 220, 221, 222, 176, 177, 178, 179, 180, 181, 182, 183, 184, 185, 186, 187, 188, 189, 190, 191, 192, 193, 194, 195, 196, 197, 198, 199, 172, 173, 174, 175, 764, 765, 766, 767, 768, 769] (by decide +kernel) (by decide +kernel)
set_option maxRecDepth 20000 in
theorem gL_law_X3_eat : GoodIn wsL_law (wsV RL 126 RX3 yX3_eat wsX3_eat) := goodIn_app (goodIn_of _ (by decide +kernel)) ggL_law_X3_eat
set_option maxRecDepth 20000 in
theorem ggL_law_L_pick : GoodIn wsL_law wsL_pick := goodIn_ca (goodIn_ca (goodIn_r _ [225, 33, 35, 226, 227, 228, 2, 229, 230, 231, 211, 45, 46, 47, 48, 49, 50, 15, 212, 213, 214, 40, 41, 84, 85, 86, 17, 87, 88, 89, 90, 91, 92, 64, 93, 94, 95, 44, 96, 97, 78, 73, 120, 121, 122, 123, 124, 125, 126, 127, 128, 111, 129, 130, 131, 132, 83, 133, 134, 135, 136, 137, 138, 139, 140, 141, 142, 113, 114, 115, 143, 117, 118, 119, 232, 108, 109, 110, 233, 234, 235, 236, 237, 238, 239, 240, 241, 70, 71, 72, 242, 771, 772, 773, 774, 775, 776, 761, 762, 763, 770] (by decide +kernel) (by decide +kernel)) (goodIn_sub (fun _ h => List.mem_append_left _ (List.mem_append_right _ h)) (by decide +kernel))) (goodIn_sub (fun _ h => List.mem_append_left _ (List.mem_append_left _ (List.mem_append_right _ h))) (by decide +kernel))
set_option maxRecDepth 20000 in
theorem gL_law_L_pick : GoodIn wsL_law (va_wsS RL 127 yL_pick wsL_pick) := goodIn_app (goodIn_of _ (by decide +kernel)) ggL_law_L_pick
set_option maxRecDepth 20000 in
theorem ggL_law_X3_pick : GoodIn wsL_law wsX3_pick := goodIn_r _ [246, 148, 150, 151, 5, 152, 153, 154, 155, 156, 160, 161, 162, 163, 27, 247, 248, 249, 250, 149, 180, 181, 182, 183, 184, 185, 186, 187, 188, 189, 190, 191, 192, 193, 194, 195, 196, 197, 198, 199, 172, 173, 174, 175, 251, 252, 253, 254, 255, 256, 257, 258, 259, 260, 261, 262, 764, 765, 766, 767, 768, 769] (by decide +kernel) (by decide +kernel)
set_option maxRecDepth 20000 in
theorem gL_law_X3_pick : GoodIn wsL_law (wsV RL 129 RX3 yX3_pick wsX3_pick) := goodIn_app (goodIn_of _ (by decide +kernel)) ggL_law_X3_pick
set_option maxRecDepth 20000 in
theorem ggL_law_L_split : GoodIn wsL_law wsL_split := goodIn_ca (goodIn_ca (goodIn_ca (goodIn_r _ [265, 33, 34, 35, 266, 267, 268, 2, 269, 40, 41, 270, 231, 45, 46, 47, 48, 49, 50, 15, 51, 52, 53, 54, 55, 271, 272, 273, 17, 274, 88, 275, 276, 277, 278, 64, 279, 75, 76, 44, 77, 78, 280, 80, 81, 82, 73, 83, 74, 232, 108, 109, 110, 111, 120, 121, 122, 123, 124, 125, 126, 127, 128, 129, 130, 131, 132, 133, 134, 135, 136, 137, 138, 139, 140, 141, 142, 113, 114, 115, 143, 117, 118, 119, 242, 60, 61, 62, 63, 65, 66, 67, 68, 69, 70, 71, 72, 79, 770, 771, 772, 773, 774, 775, 776, 761, 762, 763] (by decide +kernel) (by decide +kernel)) (goodIn_sub (fun _ h => List.mem_append_left _ (List.mem_append_left _ (List.mem_append_right _ h))) (by decide +kernel))) (goodIn_sub (fun _ h => List.mem_append_left _ (List.mem_append_right _ h)) (by decide +kernel))) (goodIn_sub (fun _ h => List.mem_append_right _ h) (by decide +kernel))
set_option maxRecDepth 20000 in
theorem gL_law_L_split : GoodIn wsL_law (va_wsS RL 130 yL_split wsL_split) := goodIn_app (goodIn_of _ (by decide +kernel)) ggL_law_L_split
set_option maxRecDepth 20000 in
theorem ggL_law_X3_split : GoodIn wsL_law wsX3_split := goodIn_r _ [284, 148, 27, 150, 151, 5, 152, 153, 154, 155, 156, 157, 158, 159, 285, 286, 287, 288, 289, 290, 291, 292, 293, 294, 295, 296, 297, 298, 299, 300, 180, 181, 182, 183, 184, 185, 186, 187, 188, 189, 190, 191, 192, 193, 194, 195, 196, 197, 198, 199, 172, 173, 174, 175, 251, 252, 253, 254, 764, 765, 766, 767, 768, 769] (by decide +kernel) (by decide +kernel)
set_option maxRecDepth 20000 in
theorem gL_law_X3_split : GoodIn wsL_law (wsV RL 133 RX3 yX3_split wsX3_split) := goodIn_app (goodIn_of _ (by decide +kernel)) ggL_law_X3_split
set_option maxRecDepth 20000 in
theorem ggL_law_L_join : GoodIn wsL_law wsL_join := goodIn_ca (goodIn_ca (goodIn_r _ [303, 33, 35, 304, 305, 306, 2, 307, 40, 41, 270, 45, 46, 47, 48, 49, 50, 15, 308, 309, 310, 311, 237, 238, 239, 17, 240, 64, 241, 70, 71, 44, 72, 73, 312, 276, 277, 278, 279, 75, 76, 77, 78, 233, 234, 235, 236, 232, 108, 109, 110, 111, 120, 121, 122, 123, 124, 125, 126, 127, 128, 129, 130, 131, 132, 83, 133, 134, 135, 136, 137, 138, 139, 140, 141, 142, 113, 114, 115, 143, 117, 118, 119, 242, 60, 61, 62, 63, 65, 66, 67, 68, 69, 74, 79, 80, 81, 82, 770, 761, 762, 763, 771, 772, 773, 774, 775, 776] (by decide +kernel) (by decide +kernel)) (goodIn_sub (fun _ h => List.mem_append_left _ (List.mem_append_left _ (List.mem_append_right _ h))) (by decide +kernel))) (goodIn_sub (fun _ h => List.mem_append_left _ (List.mem_append_right _ h)) (by decide +kernel))
set_option maxRecDepth 20000 in
theorem gL_law_L_join : GoodIn wsL_law (va_wsS RL 134 yL_join wsL_join) := goodIn_app (goodIn_of _ (by decide +kernel)) ggL_law_L_join
set_option maxRecDepth 20000 in
theorem ggL_law_X3_join : GoodIn wsL_law wsX3_join := goodIn_r _ [316, 148, 27, 150, 151, 5, 152, 153, 154, 155, 156, 317, 318, 319, 320, 259, 260, 261, 262, 255, 256, 257, 258, 184, 185, 186, 187, 188, 189, 190, 191, 192, 193, 194, 195, 196, 197, 198, 199, 172, 173, 174, 175, 293, 294, 295, 296, 764, 765, 766, 767, 768, 769] (by decide +kernel) (by decide +kernel)
set_option maxRecDepth 20000 in
theorem gL_law_X3_join : GoodIn wsL_law (wsV RL 136 RX3 yX3_join wsX3_join) := goodIn_app (goodIn_of _ (by decide +kernel)) ggL_law_X3_join
set_option maxRecDepth 20000 in
theorem ggL_law_X2_apples : GoodIn wsL_law wsX2_apples := goodIn_r _ [59, 15, 60, 61, 62, 17, 63, 64, 65, 66, 67, 44, 68, 69, 70, 71, 72, 73, 74, 75, 76, 77, 78, 79, 80, 81, 82, 83, 761, 762, 763, 770, 771, 772, 773, 774, 775, 776] (by decide +kernel) (by decide +kernel)
set_option maxRecDepth 20000 in
theorem gL_law_X2_apples : GoodIn wsL_law (wsV RL 137 RX2 yX2_apples wsX2_apples) := goodIn_app (goodIn_of _ (by decide +kernel)) ggL_law_X2_apples
set_option maxRecDepth 20000 in
theorem ggL_law_X3_apples : GoodIn wsL_law wsX3_apples := goodIn_r _ [325, 149, 326, 327, 328, 5, 329, 148, 764, 765, 766, 767, 768, 769] (by decide +kernel) (by decide +kernel)
set_option maxRecDepth 20000 in
theorem gL_law_X3_apples : GoodIn wsL_law (wsV RL 140 RX3 yX3_apples wsX3_apples) := goodIn_app (goodIn_of _ (by decide +kernel)) ggL_law_X3_apples
set_option maxRecDepth 20000 in
theorem ggL_law_X2_turnings : GoodIn wsL_law wsX2_turnings := goodIn_r _ [333, 124, 761, 762, 763] (by decide +kernel) (by decide +kernel)
set_option maxRecDepth 20000 in
theorem gL_law_X2_turnings : GoodIn wsL_law (wsV RL 141 RX2 yX2_turnings wsX2_turnings) := goodIn_app (goodIn_of _ (by decide +kernel)) ggL_law_X2_turnings
set_option maxRecDepth 20000 in
theorem ggL_law_X3_turnings : GoodIn wsL_law wsX3_turnings := goodIn_r _ [337, 196, 326, 327, 328, 5, 329, 148, 764, 765, 766, 767, 768, 769] (by decide +kernel) (by decide +kernel)
set_option maxRecDepth 20000 in
theorem gL_law_X3_turnings : GoodIn wsL_law (wsV RL 144 RX3 yX3_turnings wsX3_turnings) := goodIn_app (goodIn_of _ (by decide +kernel)) ggL_law_X3_turnings
set_option maxRecDepth 20000 in
theorem ggL_law_L_sizeOf : GoodIn wsL_law wsL_sizeOf := goodIn_ca (goodIn_r _ [340, 33, 341, 342, 343, 2, 344, 45, 46, 47, 48, 49, 50, 15, 60, 61, 62, 17, 63, 64, 65, 66, 67, 44, 68, 69, 70, 71, 72, 73, 74, 75, 76, 77, 78, 79, 80, 81, 82, 83, 761, 762, 763, 770, 771, 772, 773, 774, 775, 776] (by decide +kernel) (by decide +kernel)) (goodIn_sub (fun _ h => List.mem_append_left _ (List.mem_append_right _ h)) (by decide +kernel))
set_option maxRecDepth 20000 in
theorem gL_law_L_sizeOf : GoodIn wsL_law (va_wsS RL 145 yL_sizeOf wsL_sizeOf) := goodIn_app (goodIn_of _ (by decide +kernel)) ggL_law_L_sizeOf
set_option maxRecDepth 20000 in
theorem ggL_law_X3_sizeOf : GoodIn wsL_law wsX3_sizeOf := goodIn_r _ [348, 148, 27, 150, 151, 5, 152, 293, 294, 295, 296, 153, 154, 155, 156, 764, 765, 766, 767, 768, 769] (by decide +kernel) (by decide +kernel)
set_option maxRecDepth 20000 in
theorem gL_law_X3_sizeOf : GoodIn wsL_law (wsV RL 148 RX3 yX3_sizeOf wsX3_sizeOf) := goodIn_app (goodIn_of _ (by decide +kernel)) ggL_law_X3_sizeOf
set_option maxRecDepth 20000 in
theorem ggL_law_L_top : GoodIn wsL_law wsL_top := goodIn_ca (goodIn_r _ [351, 33, 352, 353, 354, 2, 355, 270, 45, 46, 47, 48, 49, 50, 15, 356, 357, 358, 311, 770, 761, 762, 763, 771, 772, 773, 774, 775, 776] (by decide +kernel) (by decide +kernel)) (goodIn_sub (fun _ h => List.mem_append_left _ (List.mem_append_right _ h)) (by decide +kernel))
set_option maxRecDepth 20000 in
theorem gL_law_L_top : GoodIn wsL_law (va_wsS RL 149 yL_top wsL_top) := goodIn_app (goodIn_of _ (by decide +kernel)) ggL_law_L_top
set_option maxRecDepth 20000 in
theorem ggL_law_X3_top : GoodIn wsL_law wsX3_top := goodIn_r _ [362, 148, 27, 150, 151, 5, 152, 363, 364, 365, 366, 153, 154, 155, 156, 764, 765, 766, 767, 768, 769] (by decide +kernel) (by decide +kernel)
set_option maxRecDepth 20000 in
theorem gL_law_X3_top : GoodIn wsL_law (wsV RL 151 RX3 yX3_top wsX3_top) := goodIn_app (goodIn_of _ (by decide +kernel)) ggL_law_X3_top
set_option maxRecDepth 20000 in
theorem ggL_law_L_height : GoodIn wsL_law wsL_height := goodIn_ca (goodIn_r _ [369, 33, 370, 371, 372, 2, 373, 45, 46, 47, 48, 49, 50, 15, 374, 375, 376, 17, 377, 378, 379, 380, 381, 275, 276, 277, 278, 64, 279, 75, 76, 44, 77, 78, 129, 130, 131, 132, 83, 280, 80, 81, 82, 73, 74, 761, 762, 763, 770, 771, 772, 773, 774, 775, 776] (by decide +kernel) (by decide +kernel)) (goodIn_sub (fun _ h => List.mem_append_left _ (List.mem_append_right _ h)) (by decide +kernel))
set_option maxRecDepth 20000 in
theorem gL_law_L_height : GoodIn wsL_law (va_wsS RL 152 yL_height wsL_height) := goodIn_app (goodIn_of _ (by decide +kernel)) ggL_law_L_height
set_option maxRecDepth 20000 in
theorem ggL_law_X3_height : GoodIn wsL_law wsX3_height := goodIn_r _ [385, 148, 27, 150, 151, 5, 152, 386, 387, 388, 389, 390, 379, 380, 381, 153, 154, 155, 156, 764, 765, 766, 767, 768, 769] (by decide +kernel) (by decide +kernel)
set_option maxRecDepth 20000 in
theorem gL_law_X3_height : GoodIn wsL_law (wsV RL 154 RX3 yX3_height wsX3_height) := goodIn_app (goodIn_of _ (by decide +kernel)) ggL_law_X3_height
set_option maxRecDepth 20000 in
theorem ggL_law_L_leastHeight : GoodIn wsL_law wsL_leastHeight := goodIn_ca (goodIn_r _ [393, 33, 394, 395, 396, 2, 397, 45, 46, 47, 48, 49, 50, 15, 60, 61, 62, 17, 63, 64, 65, 66, 67, 44, 68, 69, 70, 71, 72, 73, 74, 75, 76, 77, 78, 79, 80, 81, 82, 83, 761, 762, 763, 770, 771, 772, 773, 774, 775, 776] (by decide +kernel) (by decide +kernel)) (goodIn_sub (fun _ h => List.mem_append_left _ (List.mem_append_right _ h)) (by decide +kernel))
set_option maxRecDepth 20000 in
theorem gL_law_L_leastHeight : GoodIn wsL_law (va_wsS RL 155 yL_leastHeight wsL_leastHeight) := goodIn_app (goodIn_of _ (by decide +kernel)) ggL_law_L_leastHeight
set_option maxRecDepth 20000 in
theorem ggL_law_X3_leastHeight : GoodIn wsL_law wsX3_leastHeight := goodIn_r _ [401, 148, 150, 151, 5, 152, 402, 403, 404, 405, 27, 293, 294, 295, 296, 153, 154, 155, 156, 764, 765, 766, 767, 768, 769] (by decide +kernel) (by decide +kernel)
set_option maxRecDepth 20000 in
theorem gL_law_X3_leastHeight : GoodIn wsL_law (wsV RL 157 RX3 yX3_leastHeight wsX3_leastHeight) := goodIn_app (goodIn_of _ (by decide +kernel)) ggL_law_X3_leastHeight
set_option maxRecDepth 20000 in
theorem ggL_law_L_depths : GoodIn wsL_law wsL_depths := goodIn_ca (goodIn_r _ [408, 33, 409, 410, 411, 2, 412, 45, 46, 47, 48, 49, 50, 15, 413, 414, 415, 17, 416, 275, 276, 277, 278, 64, 279, 75, 76, 44, 77, 78, 129, 130, 131, 132, 83, 280, 80, 81, 82, 73, 74, 761, 762, 763, 770, 771, 772, 773, 774, 775, 776] (by decide +kernel) (by decide +kernel)) (goodIn_sub (fun _ h => List.mem_append_left _ (List.mem_append_right _ h)) (by decide +kernel))
set_option maxRecDepth 20000 in
theorem gL_law_L_depths : GoodIn wsL_law (va_wsS RL 158 yL_depths wsL_depths) := goodIn_app (goodIn_of _ (by decide +kernel)) ggL_law_L_depths
set_option maxRecDepth 20000 in
theorem ggL_law_X3_depths : GoodIn wsL_law wsX3_depths := goodIn_r _ [420, 148, 27, 150, 151, 5, 152, 421, 422, 423, 424, 153, 154, 155, 156, 764, 765, 766, 767, 768, 769] (by decide +kernel) (by decide +kernel)
set_option maxRecDepth 20000 in
theorem gL_law_X3_depths : GoodIn wsL_law (wsV RL 160 RX3 yX3_depths wsX3_depths) := goodIn_app (goodIn_of _ (by decide +kernel)) ggL_law_X3_depths
set_option maxRecDepth 20000 in
theorem ggL_law_L_smallest : GoodIn wsL_law wsL_smallest := goodIn_ca (goodIn_r _ [427, 33, 428, 429, 430, 2, 431, 45, 46, 47, 48, 49, 50, 15, 312, 276, 277, 17, 278, 64, 279, 75, 76, 44, 77, 78, 356, 357, 358, 311, 761, 762, 763, 770, 771, 772, 773, 774, 775, 776] (by decide +kernel) (by decide +kernel)) (goodIn_sub (fun _ h => List.mem_append_left _ (List.mem_append_right _ h)) (by decide +kernel))
set_option maxRecDepth 20000 in
theorem gL_law_L_smallest : GoodIn wsL_law (va_wsS RL 161 yL_smallest wsL_smallest) := goodIn_app (goodIn_of _ (by decide +kernel)) ggL_law_L_smallest
set_option maxRecDepth 20000 in
theorem ggL_law_X3_smallest : GoodIn wsL_law wsX3_smallest := goodIn_r _ [435, 148, 27, 150, 151, 5, 152, 259, 260, 261, 262, 363, 364, 365, 366, 153, 154, 155, 156, 764, 765, 766, 767, 768, 769] (by decide +kernel) (by decide +kernel)
set_option maxRecDepth 20000 in
theorem gL_law_X3_smallest : GoodIn wsL_law (wsV RL 163 RX3 yX3_smallest wsX3_smallest) := goodIn_app (goodIn_of _ (by decide +kernel)) ggL_law_X3_smallest
set_option maxRecDepth 20000 in
theorem ggL_law_L_greatest : GoodIn wsL_law wsL_greatest := goodIn_ca (goodIn_r _ [438, 33, 439, 440, 441, 2, 442, 45, 46, 47, 48, 49, 50, 15, 237, 238, 239, 17, 240, 64, 241, 70, 71, 44, 72, 73, 356, 357, 358, 311, 761, 762, 763, 770, 771, 772, 773, 774, 775, 776] (by decide +kernel) (by decide +kernel)) (goodIn_sub (fun _ h => List.mem_append_left _ (List.mem_append_right _ h)) (by decide +kernel))
set_option maxRecDepth 20000 in
theorem gL_law_L_greatest : GoodIn wsL_law (va_wsS RL 164 yL_greatest wsL_greatest) := goodIn_app (goodIn_of _ (by decide +kernel)) ggL_law_L_greatest
set_option maxRecDepth 20000 in
theorem ggL_law_X3_greatest : GoodIn wsL_law wsX3_greatest := goodIn_r _ [446, 148, 27, 150, 151, 5, 152, 259, 260, 261, 262, 363, 364, 365, 366, 153, 154, 155, 156, 764, 765, 766, 767, 768, 769] (by decide +kernel) (by decide +kernel)
set_option maxRecDepth 20000 in
theorem gL_law_X3_greatest : GoodIn wsL_law (wsV RL 166 RX3 yX3_greatest wsX3_greatest) := goodIn_app (goodIn_of _ (by decide +kernel)) ggL_law_X3_greatest
set_option maxRecDepth 20000 in
theorem ggL_law_L_inOrder : GoodIn wsL_law wsL_inOrder := goodIn_ca (goodIn_r _ [449, 33, 450, 451, 452, 2, 453, 49, 50, 311, 45, 46, 47, 48, 15, 454, 455, 456, 17, 457, 275, 276, 277, 278, 64, 279, 75, 76, 44, 77, 78, 280, 80, 81, 82, 73, 83, 74, 771, 772, 773, 774, 775, 776, 761, 762, 763, 770] (by decide +kernel) (by decide +kernel)) (goodIn_sub (fun _ h => List.mem_append_left _ (List.mem_append_right _ h)) (by decide +kernel))
set_option maxRecDepth 20000 in
theorem gL_law_L_inOrder : GoodIn wsL_law (va_wsS RL 167 yL_inOrder wsL_inOrder) := goodIn_app (goodIn_of _ (by decide +kernel)) ggL_law_L_inOrder
set_option maxRecDepth 20000 in
theorem ggL_law_X3_inOrder : GoodIn wsL_law wsX3_inOrder := goodIn_r _ [461, 148, 27, 150, 151, 5, 152, 293, 294, 295, 296, 153, 154, 155, 156, 297, 298, 299, 300, 764, 765, 766, 767, 768, 769] (by decide +kernel) (by decide +kernel)
set_option maxRecDepth 20000 in
theorem gL_law_X3_inOrder : GoodIn wsL_law (wsV RL 169 RX3 yX3_inOrder wsX3_inOrder) := goodIn_app (goodIn_of _ (by decide +kernel)) ggL_law_X3_inOrder
set_option maxRecDepth 20000 in
theorem ggL_law_L_leaves : GoodIn wsL_law wsL_leaves := goodIn_ca (goodIn_r _ [464, 33, 465, 466, 467, 2, 468, 45, 46, 47, 48, 49, 50, 15, 469, 470, 471, 17, 472, 473, 474, 275, 276, 277, 278, 64, 279, 75, 76, 44, 77, 78, 280, 80, 81, 82, 73, 83, 74, 761, 762, 763, 771, 772, 773, 774, 775, 776, 770] (by decide +kernel) (by decide +kernel)) (goodIn_sub (fun _ h => List.mem_append_left _ (List.mem_append_right _ h)) (by decide +kernel))
set_option maxRecDepth 20000 in
theorem gL_law_L_leaves : GoodIn wsL_law (va_wsS RL 170 yL_leaves wsL_leaves) := goodIn_app (goodIn_of _ (by decide +kernel)) ggL_law_L_leaves
set_option maxRecDepth 20000 in
theorem ggL_law_X3_leaves : GoodIn wsL_law wsX3_leaves := goodIn_r _ [478, 148, 27, 150, 151, 5, 152, 479, 480, 481, 482, 153, 154, 155, 156, 764, 765, 766, 767, 768, 769] (by decide +kernel) (by decide +kernel)
set_option maxRecDepth 20000 in
theorem gL_law_X3_leaves : GoodIn wsL_law (wsV RL 172 RX3 yX3_leaves wsX3_leaves) := goodIn_app (goodIn_of _ (by decide +kernel)) ggL_law_X3_leaves
set_option maxRecDepth 20000 in
theorem ggL_law_L_has : GoodIn wsL_law wsL_has := goodIn_ca (goodIn_r _ [485, 33, 486, 487, 488, 2, 489, 45, 46, 47, 48, 49, 50, 15, 84, 85, 86, 17, 87, 88, 89, 90, 91, 92, 64, 93, 94, 95, 44, 96, 97, 78, 73, 761, 762, 763, 771, 772, 773, 774, 775, 776, 770] (by decide +kernel) (by decide +kernel)) (goodIn_sub (fun _ h => List.mem_append_left _ (List.mem_append_right _ h)) (by decide +kernel))
set_option maxRecDepth 20000 in
theorem gL_law_L_has : GoodIn wsL_law (va_wsS RL 173 yL_has wsL_has) := goodIn_app (goodIn_of _ (by decide +kernel)) ggL_law_L_has
set_option maxRecDepth 20000 in
theorem ggL_law_X3_has : GoodIn wsL_law wsX3_has := goodIn_r _ [493, 148, 150, 151, 5, 152, 160, 161, 162, 163, 27, 494, 495, 496, 497, 764, 765, 766, 767, 768, 769] (by decide +kernel) (by decide +kernel)
set_option maxRecDepth 20000 in
theorem gL_law_X3_has : GoodIn wsL_law (wsV RL 175 RX3 yX3_has wsX3_has) := goodIn_app (goodIn_of _ (by decide +kernel)) ggL_law_X3_has
set_option maxRecDepth 20000 in
theorem ggL_law_L_smaller : GoodIn wsL_law wsL_smaller := goodIn_ca (goodIn_r _ [500, 33, 501, 502, 503, 2, 504, 45, 46, 47, 48, 49, 50, 15, 505, 506, 507, 17, 508, 88, 275, 276, 277, 278, 64, 279, 75, 76, 44, 77, 78, 280, 80, 81, 82, 73, 83, 74, 761, 762, 763, 771, 772, 773, 774, 775, 776, 770] (by decide +kernel) (by decide +kernel)) (goodIn_sub (fun _ h => List.mem_append_left _ (List.mem_append_right _ h)) (by decide +kernel))
set_option maxRecDepth 20000 in
theorem gL_law_L_smaller : GoodIn wsL_law (va_wsS RL 176 yL_smaller wsL_smaller) := goodIn_app (goodIn_of _ (by decide +kernel)) ggL_law_L_smaller
set_option maxRecDepth 20000 in
theorem ggL_law_X3_smaller : GoodIn wsL_law wsX3_smaller := goodIn_r _ [512, 148, 27, 150, 151, 5, 152, 289, 290, 291, 292, 293, 294, 295, 296, 153, 154, 155, 156, 764, 765, 766, 767, 768, 769] (by decide +kernel) (by decide +kernel)
set_option maxRecDepth 20000 in
theorem gL_law_X3_smaller : GoodIn wsL_law (wsV RL 178 RX3 yX3_smaller wsX3_smaller) := goodIn_app (goodIn_of _ (by decide +kernel)) ggL_law_X3_smaller
set_option maxRecDepth 20000 in
theorem ggL_law_L_depthOf : GoodIn wsL_law wsL_depthOf := goodIn_ca (goodIn_ca (goodIn_r _ [515, 33, 35, 516, 517, 518, 2, 519, 45, 46, 47, 48, 49, 50, 15, 212, 213, 214, 40, 41, 84, 85, 86, 17, 87, 88, 89, 90, 91, 92, 64, 93, 94, 95, 44, 96, 97, 78, 73, 520, 130, 131, 132, 83, 761, 762, 763, 771, 772, 773, 774, 775, 776, 770] (by decide +kernel) (by decide +kernel)) (goodIn_sub (fun _ h => List.mem_append_left _ (List.mem_append_right _ h)) (by decide +kernel))) (goodIn_sub (fun _ h => List.mem_append_left _ (List.mem_append_left _ (List.mem_append_right _ h))) (by decide +kernel))
set_option maxRecDepth 20000 in
theorem gL_law_L_depthOf : GoodIn wsL_law (va_wsS RL 179 yL_depthOf wsL_depthOf) := goodIn_app (goodIn_of _ (by decide +kernel)) ggL_law_L_depthOf
set_option maxRecDepth 20000 in
theorem ggL_law_X3_depthOf : GoodIn wsL_law wsX3_depthOf := goodIn_r _ [524, 525, 526, 527, 5, 528, 148, 150, 151, 152, 153, 154, 155, 156, 160, 161, 162, 163, 27, 176, 177, 178, 179, 764, 765, 766, 767, 768, 769] (by decide +kernel) (by decide +kernel)
set_option maxRecDepth 20000 in
theorem gL_law_X3_depthOf : GoodIn wsL_law (wsV RL 181 RX3 yX3_depthOf wsX3_depthOf) := goodIn_app (goodIn_of _ (by decide +kernel)) ggL_law_X3_depthOf
set_option maxRecDepth 20000 in
theorem ggL_law_L_above : GoodIn wsL_law wsL_above := goodIn_ca (goodIn_ca (goodIn_r _ [531, 33, 35, 532, 533, 534, 2, 535, 536, 45, 46, 47, 48, 49, 50, 15, 212, 213, 214, 40, 41, 84, 85, 86, 17, 87, 88, 89, 90, 91, 92, 64, 93, 94, 95, 44, 96, 97, 78, 73, 356, 357, 358, 311, 771, 772, 773, 774, 775, 776, 761, 762, 763, 770] (by decide +kernel) (by decide +kernel)) (goodIn_sub (fun _ h => List.mem_append_left _ (List.mem_append_right _ h)) (by decide +kernel))) (goodIn_sub (fun _ h => List.mem_append_left _ (List.mem_append_left _ (List.mem_append_right _ h))) (by decide +kernel))
set_option maxRecDepth 20000 in
theorem gL_law_L_above : GoodIn wsL_law (va_wsS RL 182 yL_above wsL_above) := goodIn_app (goodIn_of _ (by decide +kernel)) ggL_law_L_above
set_option maxRecDepth 20000 in
theorem ggL_law_X3_above : GoodIn wsL_law wsX3_above := goodIn_r _ [540, 27, 525, 526, 527, 5, 528, 148, 150, 151, 152, 153, 154, 155, 156, 160, 161, 162, 163, 363, 364, 365, 366, 764, 765, 766, 767, 768, 769] (by decide +kernel) (by decide +kernel)
set_option maxRecDepth 20000 in
theorem gL_law_X3_above : GoodIn wsL_law (wsV RL 184 RX3 yX3_above wsX3_above) := goodIn_app (goodIn_of _ (by decide +kernel)) ggL_law_X3_above
set_option maxRecDepth 20000 in
theorem ggL_law_L_leftOf : GoodIn wsL_law wsL_leftOf := goodIn_ca (goodIn_ca (goodIn_r _ [543, 33, 35, 544, 545, 546, 2, 547, 230, 45, 46, 47, 48, 49, 50, 15, 212, 213, 214, 40, 41, 84, 85, 86, 17, 87, 88, 89, 90, 91, 92, 64, 93, 94, 95, 44, 96, 97, 78, 73, 356, 357, 358, 311, 771, 772, 773, 774, 775, 776, 761, 762, 763, 770] (by decide +kernel) (by decide +kernel)) (goodIn_sub (fun _ h => List.mem_append_left _ (List.mem_append_right _ h)) (by decide +kernel))) (goodIn_sub (fun _ h => List.mem_append_left _ (List.mem_append_left _ (List.mem_append_right _ h))) (by decide +kernel))
set_option maxRecDepth 20000 in
theorem gL_law_L_leftOf : GoodIn wsL_law (va_wsS RL 185 yL_leftOf wsL_leftOf) := goodIn_app (goodIn_of _ (by decide +kernel)) ggL_law_L_leftOf
set_option maxRecDepth 20000 in
theorem ggL_law_X3_leftOf : GoodIn wsL_law wsX3_leftOf := goodIn_r _ [551, 27, 525, 526, 527, 5, 528, 148, 150, 151, 152, 153, 154, 155, 156, 160, 161, 162, 163, 363, 364, 365, 366, 764, 765, 766, 767, 768, 769] (by decide +kernel) (by decide +kernel)
set_option maxRecDepth 20000 in
theorem gL_law_X3_leftOf : GoodIn wsL_law (wsV RL 187 RX3 yX3_leftOf wsX3_leftOf) := goodIn_app (goodIn_of _ (by decide +kernel)) ggL_law_X3_leftOf
set_option maxRecDepth 20000 in
theorem ggL_law_L_rightOf : GoodIn wsL_law wsL_rightOf := goodIn_ca (goodIn_ca (goodIn_r _ [554, 33, 35, 555, 556, 557, 2, 558, 231, 45, 46, 47, 48, 49, 50, 15, 212, 213, 214, 40, 41, 84, 85, 86, 17, 87, 88, 89, 90, 91, 92, 64, 93, 94, 95, 44, 96, 97, 78, 73, 356, 357, 358, 311, 771, 772, 773, 774, 775, 776, 761, 762, 763, 770] (by decide +kernel) (by decide +kernel)) (goodIn_sub (fun _ h => List.mem_append_left _ (List.mem_append_right _ h)) (by decide +kernel))) (goodIn_sub (fun _ h => List.mem_append_left _ (List.mem_append_left _ (List.mem_append_right _ h))) (by decide +kernel))
set_option maxRecDepth 20000 in
theorem gL_law_L_rightOf : GoodIn wsL_law (va_wsS RL 188 yL_rightOf wsL_rightOf) := goodIn_app (goodIn_of _ (by decide +kernel)) ggL_law_L_rightOf
set_option maxRecDepth 20000 in
theorem ggL_law_X3_rightOf : GoodIn wsL_law wsX3_rightOf := goodIn_r _ [562, 27, 525, 526, 527, 5, 528, 148, 150, 151, 152, 153, 154, 155, 156, 160, 161, 162, 163, 363, 364, 365, 366, 764, 765, 766, 767, 768, 769] (by decide +kernel) (by decide +kernel)
set_option maxRecDepth 20000 in
theorem gL_law_X3_rightOf : GoodIn wsL_law (wsV RL 190 RX3 yX3_rightOf wsX3_rightOf) := goodIn_app (goodIn_of _ (by decide +kernel)) ggL_law_X3_rightOf
set_option maxRecDepth 20000 in
theorem ggL_law_L_below : GoodIn wsL_law wsL_below := goodIn_ca (goodIn_ca (goodIn_r _ [565, 33, 35, 566, 567, 568, 2, 569, 45, 46, 47, 48, 49, 50, 15, 212, 213, 214, 40, 41, 84, 85, 86, 17, 87, 88, 89, 90, 91, 92, 64, 93, 94, 95, 44, 96, 97, 78, 73, 570, 66, 67, 68, 69, 70, 71, 72, 74, 75, 76, 77, 79, 80, 81, 82, 83, 761, 762, 763, 771, 772, 773, 774, 775, 776, 770] (by decide +kernel) (by decide +kernel)) (goodIn_sub (fun _ h => List.mem_append_left _ (List.mem_append_right _ h)) (by decide +kernel))) (goodIn_sub (fun _ h => List.mem_append_left _ (List.mem_append_left _ (List.mem_append_right _ h))) (by decide +kernel))
set_option maxRecDepth 20000 in
theorem gL_law_L_below : GoodIn wsL_law (va_wsS RL 191 yL_below wsL_below) := goodIn_app (goodIn_of _ (by decide +kernel)) ggL_law_L_below
set_option maxRecDepth 20000 in
theorem ggL_law_X3_below : GoodIn wsL_law wsX3_below := goodIn_r _ [574, 525, 526, 527, 5, 528, 148, 150, 151, 152, 153, 154, 155, 156, 160, 161, 162, 163, 27, 293, 294, 295, 296, 764, 765, 766, 767, 768, 769] (by decide +kernel) (by decide +kernel)
set_option maxRecDepth 20000 in
theorem gL_law_X3_below : GoodIn wsL_law (wsV RL 193 RX3 yX3_below wsX3_below) := goodIn_app (goodIn_of _ (by decide +kernel)) ggL_law_X3_below
set_option maxRecDepth 20000 in
theorem ggL_law_L_eaten : GoodIn wsL_law wsL_eaten := goodIn_ca (goodIn_ca (goodIn_r _ [577, 33, 35, 578, 579, 580, 2, 581, 211, 45, 46, 47, 48, 49, 50, 15, 212, 213, 214, 40, 41, 84, 85, 86, 17, 87, 88, 89, 90, 91, 92, 64, 93, 94, 95, 44, 96, 97, 78, 73, 771, 772, 773, 774, 775, 776, 761, 762, 763, 770] (by decide +kernel) (by decide +kernel)) (goodIn_sub (fun _ h => List.mem_append_left _ (List.mem_append_right _ h)) (by decide +kernel))) (goodIn_sub (fun _ h => List.mem_append_left _ (List.mem_append_left _ (List.mem_append_right _ h))) (by decide +kernel))
set_option maxRecDepth 20000 in
theorem gL_law_L_eaten : GoodIn wsL_law (va_wsS RL 194 yL_eaten wsL_eaten) := goodIn_app (goodIn_of _ (by decide +kernel)) ggL_law_L_eaten
set_option maxRecDepth 20000 in
theorem ggL_law_X3_eaten : GoodIn wsL_law wsX3_eaten := goodIn_r _ [585, 27, 525, 526, 527, 5, 528, 148, 150, 151, 152, 153, 154, 155, 156, 160, 161, 162, 163, 764, 765, 766, 767, 768, 769] (by decide +kernel) (by decide +kernel)
set_option maxRecDepth 20000 in
theorem gL_law_X3_eaten : GoodIn wsL_law (wsV RL 196 RX3 yX3_eaten wsX3_eaten) := goodIn_app (goodIn_of _ (by decide +kernel)) ggL_law_X3_eaten
set_option maxRecDepth 20000 in
theorem ggL_law_L_favourite : GoodIn wsL_law wsL_favourite := goodIn_ca (goodIn_r _ [588, 33, 589, 590, 591, 2, 592, 45, 46, 47, 48, 49, 50, 15, 593, 594, 595, 17, 596, 597, 275, 276, 277, 278, 64, 279, 75, 76, 44, 77, 78, 280, 80, 81, 82, 73, 83, 74, 356, 357, 358, 311, 761, 762, 763, 771, 772, 773, 774, 775, 776, 770] (by decide +kernel) (by decide +kernel)) (goodIn_sub (fun _ h => List.mem_append_left _ (List.mem_append_right _ h)) (by decide +kernel))
set_option maxRecDepth 20000 in
theorem gL_law_L_favourite : GoodIn wsL_law (va_wsS RL 197 yL_favourite wsL_favourite) := goodIn_app (goodIn_of _ (by decide +kernel)) ggL_law_L_favourite
set_option maxRecDepth 20000 in
theorem ggL_law_X3_favourite : GoodIn wsL_law wsX3_favourite := goodIn_r _ [601, 148, 150, 151, 5, 152, 602, 603, 604, 605, 27, 293, 294, 295, 296, 297, 298, 299, 300, 363, 364, 365, 366, 153, 154, 155, 156, 764, 765, 766, 767, 768, 769] (by decide +kernel) (by decide +kernel)
set_option maxRecDepth 20000 in
theorem gL_law_X3_favourite : GoodIn wsL_law (wsV RL 199 RX3 yX3_favourite wsX3_favourite) := goodIn_app (goodIn_of _ (by decide +kernel)) ggL_law_X3_favourite
set_option maxRecDepth 20000 in
theorem ggL_law_L_meet : GoodIn wsL_law wsL_meet := goodIn_ca (goodIn_ca (goodIn_r _ [608, 33, 35, 609, 610, 611, 2, 612, 45, 46, 47, 48, 49, 50, 15, 212, 213, 214, 40, 41, 84, 85, 86, 17, 87, 88, 89, 90, 91, 92, 64, 93, 94, 95, 44, 96, 97, 78, 73, 613, 614, 615, 616, 617, 618, 380, 619, 378, 379, 381, 356, 357, 358, 311, 761, 762, 763, 771, 772, 773, 774, 775, 776, 770] (by decide +kernel) (by decide +kernel)) (goodIn_sub (fun _ h => List.mem_append_left _ (List.mem_append_right _ h)) (by decide +kernel))) (goodIn_sub (fun _ h => List.mem_append_left _ (List.mem_append_left _ (List.mem_append_right _ h))) (by decide +kernel))
set_option maxRecDepth 20000 in
theorem gL_law_L_meet : GoodIn wsL_law (va_wsS RL 200 yL_meet wsL_meet) := goodIn_app (goodIn_of _ (by decide +kernel)) ggL_law_L_meet
set_option maxRecDepth 20000 in
theorem ggL_law_X3_meet : GoodIn wsL_law wsX3_meet := goodIn_r _ [623, 27, 525, 526, 527, 5, 528, 148, 150, 151, 152, 153, 154, 155, 156, 160, 161, 162, 163, 176, 177, 178, 179, 764, 765, 766, 767, 768, 769] (by decide +kernel) (by decide +kernel)
set_option maxRecDepth 20000 in
theorem gL_law_X3_meet : GoodIn wsL_law (wsV RL 202 RX3 yX3_meet wsX3_meet) := goodIn_app (goodIn_of _ (by decide +kernel)) ggL_law_X3_meet
set_option maxRecDepth 20000 in
theorem ggL_law_L_depthBehind : GoodIn wsL_law wsL_depthBehind := goodIn_ca (goodIn_ca (goodIn_r _ [626, 33, 35, 627, 628, 629, 2, 630, 18, 45, 46, 47, 48, 49, 50, 15, 212, 213, 214, 40, 41, 84, 85, 86, 17, 87, 88, 89, 90, 91, 92, 64, 93, 94, 95, 44, 96, 97, 78, 73, 631, 632, 633, 634, 635, 636, 637, 638, 639, 275, 276, 277, 278, 279, 75, 76, 77, 640, 641, 642, 643, 102, 83, 644, 645, 646, 280, 80, 81, 82, 74, 647, 125, 126, 127, 128, 111, 129, 130, 131, 132, 133, 134, 135, 136, 137, 138, 139, 140, 141, 142, 113, 114, 115, 143, 117, 118, 119, 520, 761, 762, 763, 771, 772, 773, 774, 775, 776, 770] (by decide +kernel) (by decide +kernel)) (goodIn_sub (fun _ h => List.mem_append_left _ (List.mem_append_right _ h)) (by decide +kernel))) (goodIn_sub (fun _ h => List.mem_append_left _ (List.mem_append_left _ (List.mem_append_right _ h))) (by decide +kernel))
set_option maxRecDepth 20000 in
theorem gL_law_L_depthBehind : GoodIn wsL_law (va_wsS RL 203 yL_depthBehind wsL_depthBehind) := goodIn_app (goodIn_of _ (by decide +kernel)) ggL_law_L_depthBehind
set_option maxRecDepth 20000 in
theorem ggL_law_X3_depthBehind : GoodIn wsL_law wsX3_depthBehind := goodIn_r _ [651, 525, 526, 527, 5, 528, 148, 150, 151, 152, 153, 154, 155, 156, 160, 161, 162, 163, 27, 652, 653, 654, 655, 28, 656, 657, 658, 659, 196, 660, 184, 185, 186, 187, 188, 189, 190, 191, 192, 193, 194, 195, 197, 198, 199, 172, 173, 174, 175, 176, 177, 178, 179, 661, 662, 663, 664, 764, 765, 766, 767, 768, 769] (by decide +kernel) (by decide +kernel)
set_option maxRecDepth 20000 in
theorem gL_law_X3_depthBehind : GoodIn wsL_law (wsV RL 205 RX3 yX3_depthBehind wsX3_depthBehind) := goodIn_app (goodIn_of _ (by decide +kernel)) ggL_law_X3_depthBehind
set_option maxRecDepth 20000 in
theorem ggL_law_L_heightBehind : GoodIn wsL_law wsL_heightBehind := goodIn_ca (goodIn_ca (goodIn_r _ [667, 33, 35, 668, 669, 670, 2, 671, 18, 45, 46, 47, 48, 49, 50, 15, 212, 213, 214, 40, 41, 84, 85, 86, 17, 87, 88, 89, 90, 91, 92, 64, 93, 94, 95, 44, 96, 97, 78, 73, 631, 632, 633, 634, 635, 636, 637, 638, 639, 275, 276, 277, 278, 279, 75, 76, 77, 640, 641, 642, 643, 102, 83, 644, 645, 646, 280, 80, 81, 82, 74, 647, 125, 126, 127, 128, 111, 129, 130, 131, 132, 133, 134, 135, 136, 137, 138, 139, 140, 141, 142, 113, 114, 115, 143, 117, 118, 119, 374, 375, 376, 377, 378, 379, 380, 381, 761, 762, 763, 771, 772, 773, 774, 775, 776, 770] (by decide +kernel) (by decide +kernel)) (goodIn_sub (fun _ h => List.mem_append_left _ (List.mem_append_right _ h)) (by decide +kernel))) (goodIn_sub (fun _ h => List.mem_append_left _ (List.mem_append_left _ (List.mem_append_right _ h))) (by decide +kernel))
set_option maxRecDepth 20000 in
theorem gL_law_L_heightBehind : GoodIn wsL_law (va_wsS RL 206 yL_heightBehind wsL_heightBehind) := goodIn_app (goodIn_of _ (by decide +kernel)) ggL_law_L_heightBehind
set_option maxRecDepth 20000 in
theorem ggL_law_X3_heightBehind : GoodIn wsL_law wsX3_heightBehind := goodIn_r _ [675, 525, 526, 527, 5, 528, 148, 150, 151, 152, 153, 154, 155, 156, 160, 161, 162, 163, 27, 652, 653, 654, 655, 28, 656, 657, 658, 659, 196, 660, 184, 185, 186, 187, 188, 189, 190, 191, 192, 193, 194, 195, 197, 198, 199, 172, 173, 174, 175, 386, 387, 388, 389, 390, 379, 380, 381, 661, 662, 663, 664, 764, 765, 766, 767, 768, 769] (by decide +kernel) (by decide +kernel)
set_option maxRecDepth 20000 in
theorem gL_law_X3_heightBehind : GoodIn wsL_law (wsV RL 208 RX3 yX3_heightBehind wsX3_heightBehind) := goodIn_app (goodIn_of _ (by decide +kernel)) ggL_law_X3_heightBehind
set_option maxRecDepth 20000 in
theorem ggL_law_L_bestToEat : GoodIn wsL_law wsL_bestToEat := goodIn_ca (goodIn_r _ [678, 33, 679, 680, 681, 2, 682, 18, 45, 46, 47, 48, 49, 50, 15, 312, 276, 277, 17, 278, 64, 279, 75, 76, 44, 77, 78, 631, 632, 633, 634, 635, 636, 637, 638, 639, 275, 640, 641, 642, 643, 102, 83, 73, 644, 645, 646, 280, 80, 81, 82, 74, 647, 125, 126, 127, 128, 111, 129, 130, 131, 132, 133, 134, 135, 136, 137, 138, 139, 140, 141, 142, 113, 114, 115, 143, 117, 118, 119, 413, 414, 415, 416, 683, 356, 357, 358, 311, 761, 762, 763, 770, 771, 772, 773, 774, 775, 776] (by decide +kernel) (by decide +kernel)) (goodIn_sub (fun _ h => List.mem_append_left _ (List.mem_append_right _ h)) (by decide +kernel))
set_option maxRecDepth 20000 in
theorem gL_law_L_bestToEat : GoodIn wsL_law (va_wsS RL 209 yL_bestToEat wsL_bestToEat) := goodIn_app (goodIn_of _ (by decide +kernel)) ggL_law_L_bestToEat
set_option maxRecDepth 20000 in
theorem ggL_law_X3_bestToEat : GoodIn wsL_law wsX3_bestToEat := goodIn_r _ [687, 148, 150, 151, 5, 152, 688, 689, 690, 691, 27, 293, 294, 295, 296, 297, 298, 299, 300, 652, 653, 654, 655, 28, 656, 657, 658, 659, 196, 660, 184, 185, 186, 187, 188, 189, 190, 191, 192, 193, 194, 195, 197, 198, 199, 172, 173, 174, 175, 421, 422, 423, 424, 661, 662, 663, 664, 363, 364, 365, 366, 153, 154, 155, 156, 764, 765, 766, 767, 768, 769] (by decide +kernel) (by decide +kernel)
set_option maxRecDepth 20000 in
theorem gL_law_X3_bestToEat : GoodIn wsL_law (wsV RL 211 RX3 yX3_bestToEat wsX3_bestToEat) := goodIn_app (goodIn_of _ (by decide +kernel)) ggL_law_X3_bestToEat
set_option maxRecDepth 20000 in
theorem ggL_law_L_plantDepth : GoodIn wsL_law wsL_plantDepth := goodIn_ca (goodIn_ca (goodIn_r _ [694, 33, 34, 695, 696, 697, 2, 698, 311, 45, 46, 47, 48, 49, 50, 15, 51, 52, 53, 54, 55, 699, 90, 91, 17, 92, 64, 93, 94, 95, 44, 96, 97, 78, 73, 520, 130, 131, 132, 83, 771, 772, 773, 774, 775, 776, 761, 762, 763, 770] (by decide +kernel) (by decide +kernel)) (goodIn_sub (fun _ h => List.mem_append_left _ (List.mem_append_right _ h)) (by decide +kernel))) (goodIn_sub (fun _ h => List.mem_append_right _ h) (by decide +kernel))
set_option maxRecDepth 20000 in
theorem gL_law_L_plantDepth : GoodIn wsL_law (va_wsS RL 212 yL_plantDepth wsL_plantDepth) := goodIn_app (goodIn_of _ (by decide +kernel)) ggL_law_L_plantDepth
set_option maxRecDepth 20000 in
theorem ggL_law_X3_plantDepth : GoodIn wsL_law wsX3_plantDepth := goodIn_r _ [703, 148, 150, 151, 5, 152, 153, 154, 155, 156, 157, 158, 159, 704, 705, 706, 707, 27, 764, 765, 766, 767, 768, 769] (by decide +kernel) (by decide +kernel)
set_option maxRecDepth 20000 in
theorem gL_law_X3_plantDepth : GoodIn wsL_law (wsV RL 214 RX3 yX3_plantDepth wsX3_plantDepth) := goodIn_app (goodIn_of _ (by decide +kernel)) ggL_law_X3_plantDepth
set_option maxRecDepth 20000 in
theorem ggL_law_L_canJoin : GoodIn wsL_law wsL_canJoin := goodIn_ca (goodIn_r _ [710, 33, 711, 712, 713, 2, 714, 45, 46, 47, 48, 49, 50, 15, 308, 309, 310, 311, 237, 238, 239, 17, 240, 64, 241, 70, 71, 44, 72, 73, 312, 276, 277, 278, 279, 75, 76, 77, 78, 761, 762, 763, 771, 772, 773, 774, 775, 776, 770] (by decide +kernel) (by decide +kernel)) (goodIn_sub (fun _ h => List.mem_append_left _ (List.mem_append_right _ h)) (by decide +kernel))
set_option maxRecDepth 20000 in
theorem gL_law_L_canJoin : GoodIn wsL_law (va_wsS RL 215 yL_canJoin wsL_canJoin) := goodIn_app (goodIn_of _ (by decide +kernel)) ggL_law_L_canJoin
set_option maxRecDepth 20000 in
theorem ggL_law_X3_canJoin : GoodIn wsL_law wsX3_canJoin := goodIn_r _ [718, 148, 150, 151, 5, 152, 317, 318, 319, 320, 27, 259, 260, 261, 262, 494, 495, 496, 497, 764, 765, 766, 767, 768, 769] (by decide +kernel) (by decide +kernel)
set_option maxRecDepth 20000 in
theorem gL_law_X3_canJoin : GoodIn wsL_law (wsV RL 217 RX3 yX3_canJoin wsX3_canJoin) := goodIn_app (goodIn_of _ (by decide +kernel)) ggL_law_X3_canJoin
set_option maxRecDepth 20000 in
theorem ggL_law_L_meanDepth : GoodIn wsL_law wsL_meanDepth := goodIn_ca (goodIn_r _ [721, 33, 722, 723, 724, 2, 725, 45, 46, 47, 48, 49, 50, 15, 60, 61, 62, 17, 63, 64, 65, 66, 67, 44, 68, 69, 70, 71, 72, 73, 74, 75, 76, 77, 78, 79, 80, 81, 82, 83, 413, 414, 415, 416, 275, 276, 277, 278, 279, 129, 130, 131, 132, 280, 761, 762, 763, 770, 771, 772, 773, 774, 775, 776] (by decide +kernel) (by decide +kernel)) (goodIn_sub (fun _ h => List.mem_append_left _ (List.mem_append_right _ h)) (by decide +kernel))
set_option maxRecDepth 20000 in
theorem gL_law_L_meanDepth : GoodIn wsL_law (va_wsS RL 218 yL_meanDepth wsL_meanDepth) := goodIn_app (goodIn_of _ (by decide +kernel)) ggL_law_L_meanDepth
set_option maxRecDepth 20000 in
theorem ggL_law_X3_meanDepth : GoodIn wsL_law wsX3_meanDepth := goodIn_r _ [729, 148, 27, 150, 151, 5, 152, 421, 422, 423, 424, 293, 294, 295, 296, 764, 765, 766, 767, 768, 769] (by decide +kernel) (by decide +kernel)
set_option maxRecDepth 20000 in
theorem gL_law_X3_meanDepth : GoodIn wsL_law (wsV RL 221 RX3 yX3_meanDepth wsX3_meanDepth) := goodIn_app (goodIn_of _ (by decide +kernel)) ggL_law_X3_meanDepth
set_option maxRecDepth 20000 in
theorem ggL_law_X2_digest : GoodIn wsL_law wsX2_digest := goodIn_ca (goodIn_r _ [733, 734, 15, 56, 57, 58, 2, 59, 60, 61, 62, 17, 63, 64, 65, 66, 67, 44, 68, 69, 70, 71, 72, 73, 74, 75, 76, 77, 78, 79, 80, 81, 82, 83, 735, 736, 737, 738, 739, 331, 332, 333, 124, 740, 741, 742, 743, 744, 342, 343, 344, 45, 46, 47, 48, 49, 50, 745, 353, 354, 355, 270, 356, 357, 358, 311, 746, 371, 372, 373, 374, 375, 376, 377, 378, 379, 380, 381, 275, 276, 277, 278, 279, 129, 130, 131, 132, 280, 747, 395, 396, 397, 748, 410, 411, 412, 413, 414, 415, 416, 749, 466, 467, 468, 469, 470, 471, 472, 473, 474, 750, 590, 591, 592, 593, 594, 595, 596, 597, 751, 680, 681, 682, 18, 312, 631, 632, 633, 634, 635, 636, 637, 638, 639, 640, 641, 642, 643, 102, 644, 645, 646, 647, 125, 126, 127, 128, 111, 133, 134, 135, 136, 137, 138, 139, 140, 141, 142, 113, 114, 115, 143, 117, 118, 119, 683, 752, 753, 754, 536, 230, 231, 211, 520, 570, 761, 762, 763, 770, 771, 772, 773, 774, 775, 776] (by decide +kernel) (by decide +kernel)) (goodIn_sub (fun _ h => List.mem_append_left _ (List.mem_append_right _ h)) (by decide +kernel))
set_option maxRecDepth 20000 in
theorem gL_law_X2_digest : GoodIn wsL_law (wsV RL 222 RX2 yX2_digest wsX2_digest) := goodIn_app (goodIn_of _ (by decide +kernel)) ggL_law_X2_digest
set_option maxRecDepth 20000 in
theorem ggL_law_X3_digest : GoodIn wsL_law wsX3_digest := goodIn_r _ [758, 148, 759, 149, 760, 196, 27, 293, 294, 295, 5, 296, 363, 364, 365, 366, 386, 387, 388, 389, 390, 379, 380, 381, 402, 403, 404, 405, 421, 422, 423, 424, 479, 480, 481, 482, 602, 603, 604, 605, 297, 298, 299, 300, 688, 689, 690, 691, 652, 653, 654, 655, 28, 656, 657, 658, 659, 660, 184, 185, 186, 187, 188, 189, 190, 191, 192, 193, 194, 195, 197, 198, 199, 172, 173, 174, 175, 661, 662, 663, 664, 176, 177, 178, 179, 764, 765, 766, 767, 768, 769] (by decide +kernel) (by decide +kernel)
set_option maxRecDepth 20000 in
theorem gL_law_X3_digest : GoodIn wsL_law (wsV RL 226 RX3 yX3_digest wsX3_digest) := goodIn_app (goodIn_of _ (by decide +kernel)) ggL_law_X3_digest
theorem dL_law_0 : decode cL_law 0 = .ok (.new 8, 3) := by decide +kernel
theorem dL_law_3 : decode cL_law 3 = .ok (.dup, 1) := by decide +kernel
theorem dL_law_4 : decode cL_law 4 = .ok (.invokespecial 110, 3) := by decide +kernel
theorem dL_law_7 : decode cL_law 7 = .ok (.astore_n 1, 1) := by decide +kernel
theorem dL_law_8 : decode cL_law 8 = .ok (.new 111, 3) := by decide +kernel
theorem dL_law_11 : decode cL_law 11 = .ok (.dup, 1) := by decide +kernel
theorem dL_law_12 : decode cL_law 12 = .ok (.invokespecial 113, 3) := by decide +kernel
theorem dL_law_15 : decode cL_law 15 = .ok (.astore_n 2, 1) := by decide +kernel
theorem dL_law_16 : decode cL_law 16 = .ok (.iconst 1, 1) := by decide +kernel
theorem dL_law_17 : decode cL_law 17 = .ok (.newarray .long, 2) := by decide +kernel
theorem dL_law_19 : decode cL_law 19 = .ok (.astore_n 3, 1) := by decide +kernel
theorem dL_law_20 : decode cL_law 20 = .ok (.iconst 1, 1) := by decide +kernel
theorem dL_law_21 : decode cL_law 21 = .ok (.newarray .double, 2) := by decide +kernel
theorem dL_law_23 : decode cL_law 23 = .ok (.astore 4, 2) := by decide +kernel
theorem dL_law_25 : decode cL_law 25 = .ok (.iconst 0, 1) := by decide +kernel
theorem dL_law_26 : decode cL_law 26 = .ok (.istore 5, 2) := by decide +kernel
theorem dL_law_28 : decode cL_law 28 = .ok (.iload 5, 2) := by decide +kernel
theorem dL_law_30 : decode cL_law 30 = .ok (.aload_n 0, 1) := by decide +kernel
theorem dL_law_31 : decode cL_law 31 = .ok (.arraylength, 1) := by decide +kernel
theorem dL_law_32 : decode cL_law 32 = .ok (.iconst 4, 1) := by decide +kernel
theorem dL_law_33 : decode cL_law 33 = .ok (.isub, 1) := by decide +kernel
theorem dL_law_34 : decode cL_law 34 = .ok (.if_icmp .gt 2183, 3) := by decide +kernel
theorem dL_law_37 : decode cL_law 37 = .ok (.aload_n 0, 1) := by decide +kernel
theorem dL_law_38 : decode cL_law 38 = .ok (.iload 5, 2) := by decide +kernel
theorem dL_law_40 : decode cL_law 40 = .ok (.iaload, 1) := by decide +kernel
theorem dL_law_41 : decode cL_law 41 = .ok (.bipush 63, 2) := by decide +kernel
theorem dL_law_43 : decode cL_law 43 = .ok (.iand, 1) := by decide +kernel
theorem dL_law_44 : decode cL_law 44 = .ok (.tableswitch 2167 0 32 #[148, 216, 284, 352, 432, 500, 513, 526, 582, 638, 694, 750, 806, 862, 918, 986, 1042, 1117, 1185, 1253, 1321, 1389, 1457, 1525, 1593, 1649, 1729, 1809, 1877, 1933, 2001, 2076, 2153], 148) := by decide +kernel
theorem dL_law_192 : decode cL_law 192 = .ok (.aload_n 1, 1) := by decide +kernel
theorem dL_law_193 : decode cL_law 193 = .ok (.aload_n 0, 1) := by decide +kernel
theorem dL_law_194 : decode cL_law 194 = .ok (.iload 5, 2) := by decide +kernel
theorem dL_law_196 : decode cL_law 196 = .ok (.iconst 1, 1) := by decide +kernel
theorem dL_law_197 : decode cL_law 197 = .ok (.iadd, 1) := by decide +kernel
theorem dL_law_198 : decode cL_law 198 = .ok (.iaload, 1) := by decide +kernel
theorem dL_law_199 : decode cL_law 199 = .ok (.aload_n 0, 1) := by decide +kernel
theorem dL_law_200 : decode cL_law 200 = .ok (.iload 5, 2) := by decide +kernel
theorem dL_law_202 : decode cL_law 202 = .ok (.iconst 2, 1) := by decide +kernel
theorem dL_law_203 : decode cL_law 203 = .ok (.iadd, 1) := by decide +kernel
theorem dL_law_204 : decode cL_law 204 = .ok (.iaload, 1) := by decide +kernel
theorem dL_law_205 : decode cL_law 205 = .ok (.aload_n 3, 1) := by decide +kernel
theorem dL_law_206 : decode cL_law 206 = .ok (.invokestatic 114, 3) := by decide +kernel
theorem dL_law_209 : decode cL_law 209 = .ok (.istore 6, 2) := by decide +kernel
theorem dL_law_211 : decode cL_law 211 = .ok (.aload_n 2, 1) := by decide +kernel
theorem dL_law_212 : decode cL_law 212 = .ok (.aload_n 0, 1) := by decide +kernel
theorem dL_law_213 : decode cL_law 213 = .ok (.iload 5, 2) := by decide +kernel
theorem dL_law_215 : decode cL_law 215 = .ok (.iconst 1, 1) := by decide +kernel
theorem dL_law_216 : decode cL_law 216 = .ok (.iadd, 1) := by decide +kernel
theorem dL_law_217 : decode cL_law 217 = .ok (.iaload, 1) := by decide +kernel
theorem dL_law_218 : decode cL_law 218 = .ok (.aload_n 0, 1) := by decide +kernel
theorem dL_law_219 : decode cL_law 219 = .ok (.iload 5, 2) := by decide +kernel
theorem dL_law_221 : decode cL_law 221 = .ok (.iconst 2, 1) := by decide +kernel
theorem dL_law_222 : decode cL_law 222 = .ok (.iadd, 1) := by decide +kernel
theorem dL_law_223 : decode cL_law 223 = .ok (.iaload, 1) := by decide +kernel
theorem dL_law_224 : decode cL_law 224 = .ok (.invokevirtual 119, 3) := by decide +kernel
theorem dL_law_227 : decode cL_law 227 = .ok (.istore 7, 2) := by decide +kernel
theorem dL_law_229 : decode cL_law 229 = .ok (.aload_n 2, 1) := by decide +kernel
theorem dL_law_230 : decode cL_law 230 = .ok (.invokevirtual 120, 3) := by decide +kernel
theorem dL_law_233 : decode cL_law 233 = .ok (.iload 6, 2) := by decide +kernel
theorem dL_law_235 : decode cL_law 235 = .ok (.if_icmp .eq 5, 3) := by decide +kernel
theorem dL_law_238 : decode cL_law 238 = .ok (.iconst 0, 1) := by decide +kernel
theorem dL_law_239 : decode cL_law 239 = .ok (.ireturn, 1) := by decide +kernel
theorem dL_law_240 : decode cL_law 240 = .ok (.iload 6, 2) := by decide +kernel
theorem dL_law_242 : decode cL_law 242 = .ok (.ifCond .ne 15, 3) := by decide +kernel
theorem dL_law_245 : decode cL_law 245 = .ok (.aload_n 3, 1) := by decide +kernel
theorem dL_law_246 : decode cL_law 246 = .ok (.iconst 0, 1) := by decide +kernel
theorem dL_law_247 : decode cL_law 247 = .ok (.laload, 1) := by decide +kernel
theorem dL_law_248 : decode cL_law 248 = .ok (.iload 7, 2) := by decide +kernel
theorem dL_law_250 : decode cL_law 250 = .ok (.i2l, 1) := by decide +kernel
theorem dL_law_251 : decode cL_law 251 = .ok (.lcmp, 1) := by decide +kernel
theorem dL_law_252 : decode cL_law 252 = .ok (.ifCond .eq 5, 3) := by decide +kernel
theorem dL_law_255 : decode cL_law 255 = .ok (.iconst 0, 1) := by decide +kernel
theorem dL_law_256 : decode cL_law 256 = .ok (.ireturn, 1) := by decide +kernel
theorem dL_law_257 : decode cL_law 257 = .ok (.goto 1954, 3) := by decide +kernel
theorem dL_law_260 : decode cL_law 260 = .ok (.aload_n 1, 1) := by decide +kernel
theorem dL_law_261 : decode cL_law 261 = .ok (.aload_n 0, 1) := by decide +kernel
theorem dL_law_262 : decode cL_law 262 = .ok (.iload 5, 2) := by decide +kernel
theorem dL_law_264 : decode cL_law 264 = .ok (.iconst 1, 1) := by decide +kernel
theorem dL_law_265 : decode cL_law 265 = .ok (.iadd, 1) := by decide +kernel
theorem dL_law_266 : decode cL_law 266 = .ok (.iaload, 1) := by decide +kernel
theorem dL_law_267 : decode cL_law 267 = .ok (.aload_n 0, 1) := by decide +kernel
theorem dL_law_268 : decode cL_law 268 = .ok (.iload 5, 2) := by decide +kernel
theorem dL_law_270 : decode cL_law 270 = .ok (.iconst 2, 1) := by decide +kernel
theorem dL_law_271 : decode cL_law 271 = .ok (.iadd, 1) := by decide +kernel
theorem dL_law_272 : decode cL_law 272 = .ok (.iaload, 1) := by decide +kernel
theorem dL_law_273 : decode cL_law 273 = .ok (.aload_n 3, 1) := by decide +kernel
theorem dL_law_274 : decode cL_law 274 = .ok (.invokestatic 124, 3) := by decide +kernel
theorem dL_law_277 : decode cL_law 277 = .ok (.istore 6, 2) := by decide +kernel
theorem dL_law_279 : decode cL_law 279 = .ok (.aload_n 2, 1) := by decide +kernel
theorem dL_law_280 : decode cL_law 280 = .ok (.aload_n 0, 1) := by decide +kernel
theorem dL_law_281 : decode cL_law 281 = .ok (.iload 5, 2) := by decide +kernel
theorem dL_law_283 : decode cL_law 283 = .ok (.iconst 1, 1) := by decide +kernel
theorem dL_law_284 : decode cL_law 284 = .ok (.iadd, 1) := by decide +kernel
theorem dL_law_285 : decode cL_law 285 = .ok (.iaload, 1) := by decide +kernel
theorem dL_law_286 : decode cL_law 286 = .ok (.aload_n 0, 1) := by decide +kernel
theorem dL_law_287 : decode cL_law 287 = .ok (.iload 5, 2) := by decide +kernel
theorem dL_law_289 : decode cL_law 289 = .ok (.iconst 2, 1) := by decide +kernel
theorem dL_law_290 : decode cL_law 290 = .ok (.iadd, 1) := by decide +kernel
theorem dL_law_291 : decode cL_law 291 = .ok (.iaload, 1) := by decide +kernel
theorem dL_law_292 : decode cL_law 292 = .ok (.invokevirtual 126, 3) := by decide +kernel
theorem dL_law_295 : decode cL_law 295 = .ok (.istore 7, 2) := by decide +kernel
theorem dL_law_297 : decode cL_law 297 = .ok (.aload_n 2, 1) := by decide +kernel
theorem dL_law_298 : decode cL_law 298 = .ok (.invokevirtual 120, 3) := by decide +kernel
theorem dL_law_301 : decode cL_law 301 = .ok (.iload 6, 2) := by decide +kernel
theorem dL_law_303 : decode cL_law 303 = .ok (.if_icmp .eq 5, 3) := by decide +kernel
theorem dL_law_306 : decode cL_law 306 = .ok (.iconst 0, 1) := by decide +kernel
theorem dL_law_307 : decode cL_law 307 = .ok (.ireturn, 1) := by decide +kernel
theorem dL_law_308 : decode cL_law 308 = .ok (.iload 6, 2) := by decide +kernel
theorem dL_law_310 : decode cL_law 310 = .ok (.ifCond .ne 15, 3) := by decide +kernel
theorem dL_law_313 : decode cL_law 313 = .ok (.aload_n 3, 1) := by decide +kernel
theorem dL_law_314 : decode cL_law 314 = .ok (.iconst 0, 1) := by decide +kernel
theorem dL_law_315 : decode cL_law 315 = .ok (.laload, 1) := by decide +kernel
theorem dL_law_316 : decode cL_law 316 = .ok (.iload 7, 2) := by decide +kernel
theorem dL_law_318 : decode cL_law 318 = .ok (.i2l, 1) := by decide +kernel
theorem dL_law_319 : decode cL_law 319 = .ok (.lcmp, 1) := by decide +kernel
theorem dL_law_320 : decode cL_law 320 = .ok (.ifCond .eq 5, 3) := by decide +kernel
theorem dL_law_323 : decode cL_law 323 = .ok (.iconst 0, 1) := by decide +kernel
theorem dL_law_324 : decode cL_law 324 = .ok (.ireturn, 1) := by decide +kernel
theorem dL_law_325 : decode cL_law 325 = .ok (.goto 1886, 3) := by decide +kernel
theorem dL_law_328 : decode cL_law 328 = .ok (.aload_n 1, 1) := by decide +kernel
theorem dL_law_329 : decode cL_law 329 = .ok (.aload_n 0, 1) := by decide +kernel
theorem dL_law_330 : decode cL_law 330 = .ok (.iload 5, 2) := by decide +kernel
theorem dL_law_332 : decode cL_law 332 = .ok (.iconst 1, 1) := by decide +kernel
theorem dL_law_333 : decode cL_law 333 = .ok (.iadd, 1) := by decide +kernel
theorem dL_law_334 : decode cL_law 334 = .ok (.iaload, 1) := by decide +kernel
theorem dL_law_335 : decode cL_law 335 = .ok (.aload_n 0, 1) := by decide +kernel
theorem dL_law_336 : decode cL_law 336 = .ok (.iload 5, 2) := by decide +kernel
theorem dL_law_338 : decode cL_law 338 = .ok (.iconst 2, 1) := by decide +kernel
theorem dL_law_339 : decode cL_law 339 = .ok (.iadd, 1) := by decide +kernel
theorem dL_law_340 : decode cL_law 340 = .ok (.iaload, 1) := by decide +kernel
theorem dL_law_341 : decode cL_law 341 = .ok (.aload_n 3, 1) := by decide +kernel
theorem dL_law_342 : decode cL_law 342 = .ok (.invokestatic 127, 3) := by decide +kernel
theorem dL_law_345 : decode cL_law 345 = .ok (.istore 6, 2) := by decide +kernel
theorem dL_law_347 : decode cL_law 347 = .ok (.aload_n 2, 1) := by decide +kernel
theorem dL_law_348 : decode cL_law 348 = .ok (.aload_n 0, 1) := by decide +kernel
theorem dL_law_349 : decode cL_law 349 = .ok (.iload 5, 2) := by decide +kernel
theorem dL_law_351 : decode cL_law 351 = .ok (.iconst 1, 1) := by decide +kernel
theorem dL_law_352 : decode cL_law 352 = .ok (.iadd, 1) := by decide +kernel
theorem dL_law_353 : decode cL_law 353 = .ok (.iaload, 1) := by decide +kernel
theorem dL_law_354 : decode cL_law 354 = .ok (.aload_n 0, 1) := by decide +kernel
theorem dL_law_355 : decode cL_law 355 = .ok (.iload 5, 2) := by decide +kernel
theorem dL_law_357 : decode cL_law 357 = .ok (.iconst 2, 1) := by decide +kernel
theorem dL_law_358 : decode cL_law 358 = .ok (.iadd, 1) := by decide +kernel
theorem dL_law_359 : decode cL_law 359 = .ok (.iaload, 1) := by decide +kernel
theorem dL_law_360 : decode cL_law 360 = .ok (.invokevirtual 129, 3) := by decide +kernel
theorem dL_law_363 : decode cL_law 363 = .ok (.istore 7, 2) := by decide +kernel
theorem dL_law_365 : decode cL_law 365 = .ok (.aload_n 2, 1) := by decide +kernel
theorem dL_law_366 : decode cL_law 366 = .ok (.invokevirtual 120, 3) := by decide +kernel
theorem dL_law_369 : decode cL_law 369 = .ok (.iload 6, 2) := by decide +kernel
theorem dL_law_371 : decode cL_law 371 = .ok (.if_icmp .eq 5, 3) := by decide +kernel
theorem dL_law_374 : decode cL_law 374 = .ok (.iconst 0, 1) := by decide +kernel
theorem dL_law_375 : decode cL_law 375 = .ok (.ireturn, 1) := by decide +kernel
theorem dL_law_376 : decode cL_law 376 = .ok (.iload 6, 2) := by decide +kernel
theorem dL_law_378 : decode cL_law 378 = .ok (.ifCond .ne 15, 3) := by decide +kernel
theorem dL_law_381 : decode cL_law 381 = .ok (.aload_n 3, 1) := by decide +kernel
theorem dL_law_382 : decode cL_law 382 = .ok (.iconst 0, 1) := by decide +kernel
theorem dL_law_383 : decode cL_law 383 = .ok (.laload, 1) := by decide +kernel
theorem dL_law_384 : decode cL_law 384 = .ok (.iload 7, 2) := by decide +kernel
theorem dL_law_386 : decode cL_law 386 = .ok (.i2l, 1) := by decide +kernel
theorem dL_law_387 : decode cL_law 387 = .ok (.lcmp, 1) := by decide +kernel
theorem dL_law_388 : decode cL_law 388 = .ok (.ifCond .eq 5, 3) := by decide +kernel
theorem dL_law_391 : decode cL_law 391 = .ok (.iconst 0, 1) := by decide +kernel
theorem dL_law_392 : decode cL_law 392 = .ok (.ireturn, 1) := by decide +kernel
theorem dL_law_393 : decode cL_law 393 = .ok (.goto 1818, 3) := by decide +kernel
theorem dL_law_396 : decode cL_law 396 = .ok (.aload_n 1, 1) := by decide +kernel
theorem dL_law_397 : decode cL_law 397 = .ok (.aload_n 0, 1) := by decide +kernel
theorem dL_law_398 : decode cL_law 398 = .ok (.iload 5, 2) := by decide +kernel
theorem dL_law_400 : decode cL_law 400 = .ok (.iconst 1, 1) := by decide +kernel
theorem dL_law_401 : decode cL_law 401 = .ok (.iadd, 1) := by decide +kernel
theorem dL_law_402 : decode cL_law 402 = .ok (.iaload, 1) := by decide +kernel
theorem dL_law_403 : decode cL_law 403 = .ok (.aload_n 0, 1) := by decide +kernel
theorem dL_law_404 : decode cL_law 404 = .ok (.iload 5, 2) := by decide +kernel
theorem dL_law_406 : decode cL_law 406 = .ok (.iconst 2, 1) := by decide +kernel
theorem dL_law_407 : decode cL_law 407 = .ok (.iadd, 1) := by decide +kernel
theorem dL_law_408 : decode cL_law 408 = .ok (.iaload, 1) := by decide +kernel
theorem dL_law_409 : decode cL_law 409 = .ok (.aload_n 0, 1) := by decide +kernel
theorem dL_law_410 : decode cL_law 410 = .ok (.iload 5, 2) := by decide +kernel
theorem dL_law_412 : decode cL_law 412 = .ok (.iconst 3, 1) := by decide +kernel
theorem dL_law_413 : decode cL_law 413 = .ok (.iadd, 1) := by decide +kernel
theorem dL_law_414 : decode cL_law 414 = .ok (.iaload, 1) := by decide +kernel
theorem dL_law_415 : decode cL_law 415 = .ok (.aload_n 3, 1) := by decide +kernel
theorem dL_law_416 : decode cL_law 416 = .ok (.invokestatic 130, 3) := by decide +kernel
theorem dL_law_419 : decode cL_law 419 = .ok (.istore 6, 2) := by decide +kernel
theorem dL_law_421 : decode cL_law 421 = .ok (.aload_n 2, 1) := by decide +kernel
theorem dL_law_422 : decode cL_law 422 = .ok (.aload_n 0, 1) := by decide +kernel
theorem dL_law_423 : decode cL_law 423 = .ok (.iload 5, 2) := by decide +kernel
theorem dL_law_425 : decode cL_law 425 = .ok (.iconst 1, 1) := by decide +kernel
theorem dL_law_426 : decode cL_law 426 = .ok (.iadd, 1) := by decide +kernel
theorem dL_law_427 : decode cL_law 427 = .ok (.iaload, 1) := by decide +kernel
theorem dL_law_428 : decode cL_law 428 = .ok (.aload_n 0, 1) := by decide +kernel
theorem dL_law_429 : decode cL_law 429 = .ok (.iload 5, 2) := by decide +kernel
theorem dL_law_431 : decode cL_law 431 = .ok (.iconst 2, 1) := by decide +kernel
theorem dL_law_432 : decode cL_law 432 = .ok (.iadd, 1) := by decide +kernel
theorem dL_law_433 : decode cL_law 433 = .ok (.iaload, 1) := by decide +kernel
theorem dL_law_434 : decode cL_law 434 = .ok (.aload_n 0, 1) := by decide +kernel
theorem dL_law_435 : decode cL_law 435 = .ok (.iload 5, 2) := by decide +kernel
theorem dL_law_437 : decode cL_law 437 = .ok (.iconst 3, 1) := by decide +kernel
theorem dL_law_438 : decode cL_law 438 = .ok (.iadd, 1) := by decide +kernel
theorem dL_law_439 : decode cL_law 439 = .ok (.iaload, 1) := by decide +kernel
theorem dL_law_440 : decode cL_law 440 = .ok (.invokevirtual 133, 3) := by decide +kernel
theorem dL_law_443 : decode cL_law 443 = .ok (.istore 7, 2) := by decide +kernel
theorem dL_law_445 : decode cL_law 445 = .ok (.aload_n 2, 1) := by decide +kernel
theorem dL_law_446 : decode cL_law 446 = .ok (.invokevirtual 120, 3) := by decide +kernel
theorem dL_law_449 : decode cL_law 449 = .ok (.iload 6, 2) := by decide +kernel
theorem dL_law_451 : decode cL_law 451 = .ok (.if_icmp .eq 5, 3) := by decide +kernel
theorem dL_law_454 : decode cL_law 454 = .ok (.iconst 0, 1) := by decide +kernel
theorem dL_law_455 : decode cL_law 455 = .ok (.ireturn, 1) := by decide +kernel
theorem dL_law_456 : decode cL_law 456 = .ok (.iload 6, 2) := by decide +kernel
theorem dL_law_458 : decode cL_law 458 = .ok (.ifCond .ne 15, 3) := by decide +kernel
theorem dL_law_461 : decode cL_law 461 = .ok (.aload_n 3, 1) := by decide +kernel
theorem dL_law_462 : decode cL_law 462 = .ok (.iconst 0, 1) := by decide +kernel
theorem dL_law_463 : decode cL_law 463 = .ok (.laload, 1) := by decide +kernel
theorem dL_law_464 : decode cL_law 464 = .ok (.iload 7, 2) := by decide +kernel
theorem dL_law_466 : decode cL_law 466 = .ok (.i2l, 1) := by decide +kernel
theorem dL_law_467 : decode cL_law 467 = .ok (.lcmp, 1) := by decide +kernel
theorem dL_law_468 : decode cL_law 468 = .ok (.ifCond .eq 5, 3) := by decide +kernel
theorem dL_law_471 : decode cL_law 471 = .ok (.iconst 0, 1) := by decide +kernel
theorem dL_law_472 : decode cL_law 472 = .ok (.ireturn, 1) := by decide +kernel
theorem dL_law_473 : decode cL_law 473 = .ok (.goto 1738, 3) := by decide +kernel
theorem dL_law_476 : decode cL_law 476 = .ok (.aload_n 1, 1) := by decide +kernel
theorem dL_law_477 : decode cL_law 477 = .ok (.aload_n 0, 1) := by decide +kernel
theorem dL_law_478 : decode cL_law 478 = .ok (.iload 5, 2) := by decide +kernel
theorem dL_law_480 : decode cL_law 480 = .ok (.iconst 1, 1) := by decide +kernel
theorem dL_law_481 : decode cL_law 481 = .ok (.iadd, 1) := by decide +kernel
theorem dL_law_482 : decode cL_law 482 = .ok (.iaload, 1) := by decide +kernel
theorem dL_law_483 : decode cL_law 483 = .ok (.aload_n 0, 1) := by decide +kernel
theorem dL_law_484 : decode cL_law 484 = .ok (.iload 5, 2) := by decide +kernel
theorem dL_law_486 : decode cL_law 486 = .ok (.iconst 2, 1) := by decide +kernel
theorem dL_law_487 : decode cL_law 487 = .ok (.iadd, 1) := by decide +kernel
theorem dL_law_488 : decode cL_law 488 = .ok (.iaload, 1) := by decide +kernel
theorem dL_law_489 : decode cL_law 489 = .ok (.aload_n 3, 1) := by decide +kernel
theorem dL_law_490 : decode cL_law 490 = .ok (.invokestatic 134, 3) := by decide +kernel
theorem dL_law_493 : decode cL_law 493 = .ok (.istore 6, 2) := by decide +kernel
theorem dL_law_495 : decode cL_law 495 = .ok (.aload_n 2, 1) := by decide +kernel
theorem dL_law_496 : decode cL_law 496 = .ok (.aload_n 0, 1) := by decide +kernel
theorem dL_law_497 : decode cL_law 497 = .ok (.iload 5, 2) := by decide +kernel
theorem dL_law_499 : decode cL_law 499 = .ok (.iconst 1, 1) := by decide +kernel
theorem dL_law_500 : decode cL_law 500 = .ok (.iadd, 1) := by decide +kernel
theorem dL_law_501 : decode cL_law 501 = .ok (.iaload, 1) := by decide +kernel
theorem dL_law_502 : decode cL_law 502 = .ok (.aload_n 0, 1) := by decide +kernel
theorem dL_law_503 : decode cL_law 503 = .ok (.iload 5, 2) := by decide +kernel
theorem dL_law_505 : decode cL_law 505 = .ok (.iconst 2, 1) := by decide +kernel
theorem dL_law_506 : decode cL_law 506 = .ok (.iadd, 1) := by decide +kernel
theorem dL_law_507 : decode cL_law 507 = .ok (.iaload, 1) := by decide +kernel
theorem dL_law_508 : decode cL_law 508 = .ok (.invokevirtual 136, 3) := by decide +kernel
theorem dL_law_511 : decode cL_law 511 = .ok (.istore 7, 2) := by decide +kernel
theorem dL_law_513 : decode cL_law 513 = .ok (.aload_n 2, 1) := by decide +kernel
theorem dL_law_514 : decode cL_law 514 = .ok (.invokevirtual 120, 3) := by decide +kernel
theorem dL_law_517 : decode cL_law 517 = .ok (.iload 6, 2) := by decide +kernel
theorem dL_law_519 : decode cL_law 519 = .ok (.if_icmp .eq 5, 3) := by decide +kernel
theorem dL_law_522 : decode cL_law 522 = .ok (.iconst 0, 1) := by decide +kernel
theorem dL_law_523 : decode cL_law 523 = .ok (.ireturn, 1) := by decide +kernel
theorem dL_law_524 : decode cL_law 524 = .ok (.iload 6, 2) := by decide +kernel
theorem dL_law_526 : decode cL_law 526 = .ok (.ifCond .ne 15, 3) := by decide +kernel
theorem dL_law_529 : decode cL_law 529 = .ok (.aload_n 3, 1) := by decide +kernel
theorem dL_law_530 : decode cL_law 530 = .ok (.iconst 0, 1) := by decide +kernel
theorem dL_law_531 : decode cL_law 531 = .ok (.laload, 1) := by decide +kernel
theorem dL_law_532 : decode cL_law 532 = .ok (.iload 7, 2) := by decide +kernel
theorem dL_law_534 : decode cL_law 534 = .ok (.i2l, 1) := by decide +kernel
theorem dL_law_535 : decode cL_law 535 = .ok (.lcmp, 1) := by decide +kernel
theorem dL_law_536 : decode cL_law 536 = .ok (.ifCond .eq 5, 3) := by decide +kernel
theorem dL_law_539 : decode cL_law 539 = .ok (.iconst 0, 1) := by decide +kernel
theorem dL_law_540 : decode cL_law 540 = .ok (.ireturn, 1) := by decide +kernel
theorem dL_law_541 : decode cL_law 541 = .ok (.goto 1670, 3) := by decide +kernel
theorem dL_law_544 : decode cL_law 544 = .ok (.aload_n 1, 1) := by decide +kernel
theorem dL_law_545 : decode cL_law 545 = .ok (.invokevirtual 137, 3) := by decide +kernel
theorem dL_law_548 : decode cL_law 548 = .ok (.aload_n 2, 1) := by decide +kernel
theorem dL_law_549 : decode cL_law 549 = .ok (.invokevirtual 140, 3) := by decide +kernel
theorem dL_law_552 : decode cL_law 552 = .ok (.if_icmp .eq 1659, 3) := by decide +kernel
theorem dL_law_555 : decode cL_law 555 = .ok (.iconst 0, 1) := by decide +kernel
theorem dL_law_556 : decode cL_law 556 = .ok (.ireturn, 1) := by decide +kernel
theorem dL_law_557 : decode cL_law 557 = .ok (.aload_n 1, 1) := by decide +kernel
theorem dL_law_558 : decode cL_law 558 = .ok (.invokevirtual 141, 3) := by decide +kernel
theorem dL_law_561 : decode cL_law 561 = .ok (.aload_n 2, 1) := by decide +kernel
theorem dL_law_562 : decode cL_law 562 = .ok (.invokevirtual 144, 3) := by decide +kernel
theorem dL_law_565 : decode cL_law 565 = .ok (.if_icmp .eq 1646, 3) := by decide +kernel
theorem dL_law_568 : decode cL_law 568 = .ok (.iconst 0, 1) := by decide +kernel
theorem dL_law_569 : decode cL_law 569 = .ok (.ireturn, 1) := by decide +kernel
theorem dL_law_570 : decode cL_law 570 = .ok (.aload_n 1, 1) := by decide +kernel
theorem dL_law_571 : decode cL_law 571 = .ok (.aload_n 0, 1) := by decide +kernel
theorem dL_law_572 : decode cL_law 572 = .ok (.iload 5, 2) := by decide +kernel
theorem dL_law_574 : decode cL_law 574 = .ok (.iconst 1, 1) := by decide +kernel
theorem dL_law_575 : decode cL_law 575 = .ok (.iadd, 1) := by decide +kernel
theorem dL_law_576 : decode cL_law 576 = .ok (.iaload, 1) := by decide +kernel
theorem dL_law_577 : decode cL_law 577 = .ok (.aload_n 3, 1) := by decide +kernel
theorem dL_law_578 : decode cL_law 578 = .ok (.invokestatic 145, 3) := by decide +kernel
theorem dL_law_581 : decode cL_law 581 = .ok (.istore 6, 2) := by decide +kernel
theorem dL_law_583 : decode cL_law 583 = .ok (.aload_n 2, 1) := by decide +kernel
theorem dL_law_584 : decode cL_law 584 = .ok (.aload_n 0, 1) := by decide +kernel
theorem dL_law_585 : decode cL_law 585 = .ok (.iload 5, 2) := by decide +kernel
theorem dL_law_587 : decode cL_law 587 = .ok (.iconst 1, 1) := by decide +kernel
theorem dL_law_588 : decode cL_law 588 = .ok (.iadd, 1) := by decide +kernel
theorem dL_law_589 : decode cL_law 589 = .ok (.iaload, 1) := by decide +kernel
theorem dL_law_590 : decode cL_law 590 = .ok (.invokevirtual 148, 3) := by decide +kernel
theorem dL_law_593 : decode cL_law 593 = .ok (.istore 7, 2) := by decide +kernel
theorem dL_law_595 : decode cL_law 595 = .ok (.aload_n 2, 1) := by decide +kernel
theorem dL_law_596 : decode cL_law 596 = .ok (.invokevirtual 120, 3) := by decide +kernel
theorem dL_law_599 : decode cL_law 599 = .ok (.iload 6, 2) := by decide +kernel
theorem dL_law_601 : decode cL_law 601 = .ok (.if_icmp .eq 5, 3) := by decide +kernel
theorem dL_law_604 : decode cL_law 604 = .ok (.iconst 0, 1) := by decide +kernel
theorem dL_law_605 : decode cL_law 605 = .ok (.ireturn, 1) := by decide +kernel
theorem dL_law_606 : decode cL_law 606 = .ok (.iload 6, 2) := by decide +kernel
theorem dL_law_608 : decode cL_law 608 = .ok (.ifCond .ne 15, 3) := by decide +kernel
theorem dL_law_611 : decode cL_law 611 = .ok (.aload_n 3, 1) := by decide +kernel
theorem dL_law_612 : decode cL_law 612 = .ok (.iconst 0, 1) := by decide +kernel
theorem dL_law_613 : decode cL_law 613 = .ok (.laload, 1) := by decide +kernel
theorem dL_law_614 : decode cL_law 614 = .ok (.iload 7, 2) := by decide +kernel
theorem dL_law_616 : decode cL_law 616 = .ok (.i2l, 1) := by decide +kernel
theorem dL_law_617 : decode cL_law 617 = .ok (.lcmp, 1) := by decide +kernel
theorem dL_law_618 : decode cL_law 618 = .ok (.ifCond .eq 5, 3) := by decide +kernel
theorem dL_law_621 : decode cL_law 621 = .ok (.iconst 0, 1) := by decide +kernel
theorem dL_law_622 : decode cL_law 622 = .ok (.ireturn, 1) := by decide +kernel
theorem dL_law_623 : decode cL_law 623 = .ok (.goto 1588, 3) := by decide +kernel
theorem dL_law_626 : decode cL_law 626 = .ok (.aload_n 1, 1) := by decide +kernel
theorem dL_law_627 : decode cL_law 627 = .ok (.aload_n 0, 1) := by decide +kernel
theorem dL_law_628 : decode cL_law 628 = .ok (.iload 5, 2) := by decide +kernel
theorem dL_law_630 : decode cL_law 630 = .ok (.iconst 1, 1) := by decide +kernel
theorem dL_law_631 : decode cL_law 631 = .ok (.iadd, 1) := by decide +kernel
theorem dL_law_632 : decode cL_law 632 = .ok (.iaload, 1) := by decide +kernel
theorem dL_law_633 : decode cL_law 633 = .ok (.aload_n 3, 1) := by decide +kernel
theorem dL_law_634 : decode cL_law 634 = .ok (.invokestatic 149, 3) := by decide +kernel
theorem dL_law_637 : decode cL_law 637 = .ok (.istore 6, 2) := by decide +kernel
theorem dL_law_639 : decode cL_law 639 = .ok (.aload_n 2, 1) := by decide +kernel
theorem dL_law_640 : decode cL_law 640 = .ok (.aload_n 0, 1) := by decide +kernel
theorem dL_law_641 : decode cL_law 641 = .ok (.iload 5, 2) := by decide +kernel
theorem dL_law_643 : decode cL_law 643 = .ok (.iconst 1, 1) := by decide +kernel
theorem dL_law_644 : decode cL_law 644 = .ok (.iadd, 1) := by decide +kernel
theorem dL_law_645 : decode cL_law 645 = .ok (.iaload, 1) := by decide +kernel
theorem dL_law_646 : decode cL_law 646 = .ok (.invokevirtual 151, 3) := by decide +kernel
theorem dL_law_649 : decode cL_law 649 = .ok (.istore 7, 2) := by decide +kernel
theorem dL_law_651 : decode cL_law 651 = .ok (.aload_n 2, 1) := by decide +kernel
theorem dL_law_652 : decode cL_law 652 = .ok (.invokevirtual 120, 3) := by decide +kernel
theorem dL_law_655 : decode cL_law 655 = .ok (.iload 6, 2) := by decide +kernel
theorem dL_law_657 : decode cL_law 657 = .ok (.if_icmp .eq 5, 3) := by decide +kernel
theorem dL_law_660 : decode cL_law 660 = .ok (.iconst 0, 1) := by decide +kernel
theorem dL_law_661 : decode cL_law 661 = .ok (.ireturn, 1) := by decide +kernel
theorem dL_law_662 : decode cL_law 662 = .ok (.iload 6, 2) := by decide +kernel
theorem dL_law_664 : decode cL_law 664 = .ok (.ifCond .ne 15, 3) := by decide +kernel
theorem dL_law_667 : decode cL_law 667 = .ok (.aload_n 3, 1) := by decide +kernel
theorem dL_law_668 : decode cL_law 668 = .ok (.iconst 0, 1) := by decide +kernel
theorem dL_law_669 : decode cL_law 669 = .ok (.laload, 1) := by decide +kernel
theorem dL_law_670 : decode cL_law 670 = .ok (.iload 7, 2) := by decide +kernel
theorem dL_law_672 : decode cL_law 672 = .ok (.i2l, 1) := by decide +kernel
theorem dL_law_673 : decode cL_law 673 = .ok (.lcmp, 1) := by decide +kernel
theorem dL_law_674 : decode cL_law 674 = .ok (.ifCond .eq 5, 3) := by decide +kernel
theorem dL_law_677 : decode cL_law 677 = .ok (.iconst 0, 1) := by decide +kernel
theorem dL_law_678 : decode cL_law 678 = .ok (.ireturn, 1) := by decide +kernel
theorem dL_law_679 : decode cL_law 679 = .ok (.goto 1532, 3) := by decide +kernel
theorem dL_law_682 : decode cL_law 682 = .ok (.aload_n 1, 1) := by decide +kernel
theorem dL_law_683 : decode cL_law 683 = .ok (.aload_n 0, 1) := by decide +kernel
theorem dL_law_684 : decode cL_law 684 = .ok (.iload 5, 2) := by decide +kernel
theorem dL_law_686 : decode cL_law 686 = .ok (.iconst 1, 1) := by decide +kernel
theorem dL_law_687 : decode cL_law 687 = .ok (.iadd, 1) := by decide +kernel
theorem dL_law_688 : decode cL_law 688 = .ok (.iaload, 1) := by decide +kernel
theorem dL_law_689 : decode cL_law 689 = .ok (.aload_n 3, 1) := by decide +kernel
theorem dL_law_690 : decode cL_law 690 = .ok (.invokestatic 152, 3) := by decide +kernel
theorem dL_law_693 : decode cL_law 693 = .ok (.istore 6, 2) := by decide +kernel
theorem dL_law_695 : decode cL_law 695 = .ok (.aload_n 2, 1) := by decide +kernel
theorem dL_law_696 : decode cL_law 696 = .ok (.aload_n 0, 1) := by decide +kernel
theorem dL_law_697 : decode cL_law 697 = .ok (.iload 5, 2) := by decide +kernel
theorem dL_law_699 : decode cL_law 699 = .ok (.iconst 1, 1) := by decide +kernel
theorem dL_law_700 : decode cL_law 700 = .ok (.iadd, 1) := by decide +kernel
theorem dL_law_701 : decode cL_law 701 = .ok (.iaload, 1) := by decide +kernel
theorem dL_law_702 : decode cL_law 702 = .ok (.invokevirtual 154, 3) := by decide +kernel
theorem dL_law_705 : decode cL_law 705 = .ok (.istore 7, 2) := by decide +kernel
theorem dL_law_707 : decode cL_law 707 = .ok (.aload_n 2, 1) := by decide +kernel
theorem dL_law_708 : decode cL_law 708 = .ok (.invokevirtual 120, 3) := by decide +kernel
theorem dL_law_711 : decode cL_law 711 = .ok (.iload 6, 2) := by decide +kernel
theorem dL_law_713 : decode cL_law 713 = .ok (.if_icmp .eq 5, 3) := by decide +kernel
theorem dL_law_716 : decode cL_law 716 = .ok (.iconst 0, 1) := by decide +kernel
theorem dL_law_717 : decode cL_law 717 = .ok (.ireturn, 1) := by decide +kernel
theorem dL_law_718 : decode cL_law 718 = .ok (.iload 6, 2) := by decide +kernel
theorem dL_law_720 : decode cL_law 720 = .ok (.ifCond .ne 15, 3) := by decide +kernel
theorem dL_law_723 : decode cL_law 723 = .ok (.aload_n 3, 1) := by decide +kernel
theorem dL_law_724 : decode cL_law 724 = .ok (.iconst 0, 1) := by decide +kernel
theorem dL_law_725 : decode cL_law 725 = .ok (.laload, 1) := by decide +kernel
theorem dL_law_726 : decode cL_law 726 = .ok (.iload 7, 2) := by decide +kernel
theorem dL_law_728 : decode cL_law 728 = .ok (.i2l, 1) := by decide +kernel
theorem dL_law_729 : decode cL_law 729 = .ok (.lcmp, 1) := by decide +kernel
theorem dL_law_730 : decode cL_law 730 = .ok (.ifCond .eq 5, 3) := by decide +kernel
theorem dL_law_733 : decode cL_law 733 = .ok (.iconst 0, 1) := by decide +kernel
theorem dL_law_734 : decode cL_law 734 = .ok (.ireturn, 1) := by decide +kernel
theorem dL_law_735 : decode cL_law 735 = .ok (.goto 1476, 3) := by decide +kernel
theorem dL_law_738 : decode cL_law 738 = .ok (.aload_n 1, 1) := by decide +kernel
theorem dL_law_739 : decode cL_law 739 = .ok (.aload_n 0, 1) := by decide +kernel
theorem dL_law_740 : decode cL_law 740 = .ok (.iload 5, 2) := by decide +kernel
theorem dL_law_742 : decode cL_law 742 = .ok (.iconst 1, 1) := by decide +kernel
theorem dL_law_743 : decode cL_law 743 = .ok (.iadd, 1) := by decide +kernel
theorem dL_law_744 : decode cL_law 744 = .ok (.iaload, 1) := by decide +kernel
theorem dL_law_745 : decode cL_law 745 = .ok (.aload_n 3, 1) := by decide +kernel
theorem dL_law_746 : decode cL_law 746 = .ok (.invokestatic 155, 3) := by decide +kernel
theorem dL_law_749 : decode cL_law 749 = .ok (.istore 6, 2) := by decide +kernel
theorem dL_law_751 : decode cL_law 751 = .ok (.aload_n 2, 1) := by decide +kernel
theorem dL_law_752 : decode cL_law 752 = .ok (.aload_n 0, 1) := by decide +kernel
theorem dL_law_753 : decode cL_law 753 = .ok (.iload 5, 2) := by decide +kernel
theorem dL_law_755 : decode cL_law 755 = .ok (.iconst 1, 1) := by decide +kernel
theorem dL_law_756 : decode cL_law 756 = .ok (.iadd, 1) := by decide +kernel
theorem dL_law_757 : decode cL_law 757 = .ok (.iaload, 1) := by decide +kernel
theorem dL_law_758 : decode cL_law 758 = .ok (.invokevirtual 157, 3) := by decide +kernel
theorem dL_law_761 : decode cL_law 761 = .ok (.istore 7, 2) := by decide +kernel
theorem dL_law_763 : decode cL_law 763 = .ok (.aload_n 2, 1) := by decide +kernel
theorem dL_law_764 : decode cL_law 764 = .ok (.invokevirtual 120, 3) := by decide +kernel
theorem dL_law_767 : decode cL_law 767 = .ok (.iload 6, 2) := by decide +kernel
theorem dL_law_769 : decode cL_law 769 = .ok (.if_icmp .eq 5, 3) := by decide +kernel
theorem dL_law_772 : decode cL_law 772 = .ok (.iconst 0, 1) := by decide +kernel
theorem dL_law_773 : decode cL_law 773 = .ok (.ireturn, 1) := by decide +kernel
theorem dL_law_774 : decode cL_law 774 = .ok (.iload 6, 2) := by decide +kernel
theorem dL_law_776 : decode cL_law 776 = .ok (.ifCond .ne 15, 3) := by decide +kernel
theorem dL_law_779 : decode cL_law 779 = .ok (.aload_n 3, 1) := by decide +kernel
theorem dL_law_780 : decode cL_law 780 = .ok (.iconst 0, 1) := by decide +kernel
theorem dL_law_781 : decode cL_law 781 = .ok (.laload, 1) := by decide +kernel
theorem dL_law_782 : decode cL_law 782 = .ok (.iload 7, 2) := by decide +kernel
theorem dL_law_784 : decode cL_law 784 = .ok (.i2l, 1) := by decide +kernel
theorem dL_law_785 : decode cL_law 785 = .ok (.lcmp, 1) := by decide +kernel
theorem dL_law_786 : decode cL_law 786 = .ok (.ifCond .eq 5, 3) := by decide +kernel
theorem dL_law_789 : decode cL_law 789 = .ok (.iconst 0, 1) := by decide +kernel
theorem dL_law_790 : decode cL_law 790 = .ok (.ireturn, 1) := by decide +kernel
theorem dL_law_791 : decode cL_law 791 = .ok (.goto 1420, 3) := by decide +kernel
theorem dL_law_794 : decode cL_law 794 = .ok (.aload_n 1, 1) := by decide +kernel
theorem dL_law_795 : decode cL_law 795 = .ok (.aload_n 0, 1) := by decide +kernel
theorem dL_law_796 : decode cL_law 796 = .ok (.iload 5, 2) := by decide +kernel
theorem dL_law_798 : decode cL_law 798 = .ok (.iconst 1, 1) := by decide +kernel
theorem dL_law_799 : decode cL_law 799 = .ok (.iadd, 1) := by decide +kernel
theorem dL_law_800 : decode cL_law 800 = .ok (.iaload, 1) := by decide +kernel
theorem dL_law_801 : decode cL_law 801 = .ok (.aload_n 3, 1) := by decide +kernel
theorem dL_law_802 : decode cL_law 802 = .ok (.invokestatic 158, 3) := by decide +kernel
theorem dL_law_805 : decode cL_law 805 = .ok (.istore 6, 2) := by decide +kernel
theorem dL_law_807 : decode cL_law 807 = .ok (.aload_n 2, 1) := by decide +kernel
theorem dL_law_808 : decode cL_law 808 = .ok (.aload_n 0, 1) := by decide +kernel
theorem dL_law_809 : decode cL_law 809 = .ok (.iload 5, 2) := by decide +kernel
theorem dL_law_811 : decode cL_law 811 = .ok (.iconst 1, 1) := by decide +kernel
theorem dL_law_812 : decode cL_law 812 = .ok (.iadd, 1) := by decide +kernel
theorem dL_law_813 : decode cL_law 813 = .ok (.iaload, 1) := by decide +kernel
theorem dL_law_814 : decode cL_law 814 = .ok (.invokevirtual 160, 3) := by decide +kernel
theorem dL_law_817 : decode cL_law 817 = .ok (.istore 7, 2) := by decide +kernel
theorem dL_law_819 : decode cL_law 819 = .ok (.aload_n 2, 1) := by decide +kernel
theorem dL_law_820 : decode cL_law 820 = .ok (.invokevirtual 120, 3) := by decide +kernel
theorem dL_law_823 : decode cL_law 823 = .ok (.iload 6, 2) := by decide +kernel
theorem dL_law_825 : decode cL_law 825 = .ok (.if_icmp .eq 5, 3) := by decide +kernel
theorem dL_law_828 : decode cL_law 828 = .ok (.iconst 0, 1) := by decide +kernel
theorem dL_law_829 : decode cL_law 829 = .ok (.ireturn, 1) := by decide +kernel
theorem dL_law_830 : decode cL_law 830 = .ok (.iload 6, 2) := by decide +kernel
theorem dL_law_832 : decode cL_law 832 = .ok (.ifCond .ne 15, 3) := by decide +kernel
theorem dL_law_835 : decode cL_law 835 = .ok (.aload_n 3, 1) := by decide +kernel
theorem dL_law_836 : decode cL_law 836 = .ok (.iconst 0, 1) := by decide +kernel
theorem dL_law_837 : decode cL_law 837 = .ok (.laload, 1) := by decide +kernel
theorem dL_law_838 : decode cL_law 838 = .ok (.iload 7, 2) := by decide +kernel
theorem dL_law_840 : decode cL_law 840 = .ok (.i2l, 1) := by decide +kernel
theorem dL_law_841 : decode cL_law 841 = .ok (.lcmp, 1) := by decide +kernel
theorem dL_law_842 : decode cL_law 842 = .ok (.ifCond .eq 5, 3) := by decide +kernel
theorem dL_law_845 : decode cL_law 845 = .ok (.iconst 0, 1) := by decide +kernel
theorem dL_law_846 : decode cL_law 846 = .ok (.ireturn, 1) := by decide +kernel
theorem dL_law_847 : decode cL_law 847 = .ok (.goto 1364, 3) := by decide +kernel
theorem dL_law_850 : decode cL_law 850 = .ok (.aload_n 1, 1) := by decide +kernel
theorem dL_law_851 : decode cL_law 851 = .ok (.aload_n 0, 1) := by decide +kernel
theorem dL_law_852 : decode cL_law 852 = .ok (.iload 5, 2) := by decide +kernel
theorem dL_law_854 : decode cL_law 854 = .ok (.iconst 1, 1) := by decide +kernel
theorem dL_law_855 : decode cL_law 855 = .ok (.iadd, 1) := by decide +kernel
theorem dL_law_856 : decode cL_law 856 = .ok (.iaload, 1) := by decide +kernel
theorem dL_law_857 : decode cL_law 857 = .ok (.aload_n 3, 1) := by decide +kernel
theorem dL_law_858 : decode cL_law 858 = .ok (.invokestatic 161, 3) := by decide +kernel
theorem dL_law_861 : decode cL_law 861 = .ok (.istore 6, 2) := by decide +kernel
theorem dL_law_863 : decode cL_law 863 = .ok (.aload_n 2, 1) := by decide +kernel
theorem dL_law_864 : decode cL_law 864 = .ok (.aload_n 0, 1) := by decide +kernel
theorem dL_law_865 : decode cL_law 865 = .ok (.iload 5, 2) := by decide +kernel
theorem dL_law_867 : decode cL_law 867 = .ok (.iconst 1, 1) := by decide +kernel
theorem dL_law_868 : decode cL_law 868 = .ok (.iadd, 1) := by decide +kernel
theorem dL_law_869 : decode cL_law 869 = .ok (.iaload, 1) := by decide +kernel
theorem dL_law_870 : decode cL_law 870 = .ok (.invokevirtual 163, 3) := by decide +kernel
theorem dL_law_873 : decode cL_law 873 = .ok (.istore 7, 2) := by decide +kernel
theorem dL_law_875 : decode cL_law 875 = .ok (.aload_n 2, 1) := by decide +kernel
theorem dL_law_876 : decode cL_law 876 = .ok (.invokevirtual 120, 3) := by decide +kernel
theorem dL_law_879 : decode cL_law 879 = .ok (.iload 6, 2) := by decide +kernel
theorem dL_law_881 : decode cL_law 881 = .ok (.if_icmp .eq 5, 3) := by decide +kernel
theorem dL_law_884 : decode cL_law 884 = .ok (.iconst 0, 1) := by decide +kernel
theorem dL_law_885 : decode cL_law 885 = .ok (.ireturn, 1) := by decide +kernel
theorem dL_law_886 : decode cL_law 886 = .ok (.iload 6, 2) := by decide +kernel
theorem dL_law_888 : decode cL_law 888 = .ok (.ifCond .ne 15, 3) := by decide +kernel
theorem dL_law_891 : decode cL_law 891 = .ok (.aload_n 3, 1) := by decide +kernel
theorem dL_law_892 : decode cL_law 892 = .ok (.iconst 0, 1) := by decide +kernel
theorem dL_law_893 : decode cL_law 893 = .ok (.laload, 1) := by decide +kernel
theorem dL_law_894 : decode cL_law 894 = .ok (.iload 7, 2) := by decide +kernel
theorem dL_law_896 : decode cL_law 896 = .ok (.i2l, 1) := by decide +kernel
theorem dL_law_897 : decode cL_law 897 = .ok (.lcmp, 1) := by decide +kernel
theorem dL_law_898 : decode cL_law 898 = .ok (.ifCond .eq 5, 3) := by decide +kernel
theorem dL_law_901 : decode cL_law 901 = .ok (.iconst 0, 1) := by decide +kernel
theorem dL_law_902 : decode cL_law 902 = .ok (.ireturn, 1) := by decide +kernel
theorem dL_law_903 : decode cL_law 903 = .ok (.goto 1308, 3) := by decide +kernel
theorem dL_law_906 : decode cL_law 906 = .ok (.aload_n 1, 1) := by decide +kernel
theorem dL_law_907 : decode cL_law 907 = .ok (.aload_n 0, 1) := by decide +kernel
theorem dL_law_908 : decode cL_law 908 = .ok (.iload 5, 2) := by decide +kernel
theorem dL_law_910 : decode cL_law 910 = .ok (.iconst 1, 1) := by decide +kernel
theorem dL_law_911 : decode cL_law 911 = .ok (.iadd, 1) := by decide +kernel
theorem dL_law_912 : decode cL_law 912 = .ok (.iaload, 1) := by decide +kernel
theorem dL_law_913 : decode cL_law 913 = .ok (.aload_n 3, 1) := by decide +kernel
theorem dL_law_914 : decode cL_law 914 = .ok (.invokestatic 164, 3) := by decide +kernel
theorem dL_law_917 : decode cL_law 917 = .ok (.istore 6, 2) := by decide +kernel
theorem dL_law_919 : decode cL_law 919 = .ok (.aload_n 2, 1) := by decide +kernel
theorem dL_law_920 : decode cL_law 920 = .ok (.aload_n 0, 1) := by decide +kernel
theorem dL_law_921 : decode cL_law 921 = .ok (.iload 5, 2) := by decide +kernel
theorem dL_law_923 : decode cL_law 923 = .ok (.iconst 1, 1) := by decide +kernel
theorem dL_law_924 : decode cL_law 924 = .ok (.iadd, 1) := by decide +kernel
theorem dL_law_925 : decode cL_law 925 = .ok (.iaload, 1) := by decide +kernel
theorem dL_law_926 : decode cL_law 926 = .ok (.invokevirtual 166, 3) := by decide +kernel
theorem dL_law_929 : decode cL_law 929 = .ok (.istore 7, 2) := by decide +kernel
theorem dL_law_931 : decode cL_law 931 = .ok (.aload_n 2, 1) := by decide +kernel
theorem dL_law_932 : decode cL_law 932 = .ok (.invokevirtual 120, 3) := by decide +kernel
theorem dL_law_935 : decode cL_law 935 = .ok (.iload 6, 2) := by decide +kernel
theorem dL_law_937 : decode cL_law 937 = .ok (.if_icmp .eq 5, 3) := by decide +kernel
theorem dL_law_940 : decode cL_law 940 = .ok (.iconst 0, 1) := by decide +kernel
theorem dL_law_941 : decode cL_law 941 = .ok (.ireturn, 1) := by decide +kernel
theorem dL_law_942 : decode cL_law 942 = .ok (.iload 6, 2) := by decide +kernel
theorem dL_law_944 : decode cL_law 944 = .ok (.ifCond .ne 15, 3) := by decide +kernel
theorem dL_law_947 : decode cL_law 947 = .ok (.aload_n 3, 1) := by decide +kernel
theorem dL_law_948 : decode cL_law 948 = .ok (.iconst 0, 1) := by decide +kernel
theorem dL_law_949 : decode cL_law 949 = .ok (.laload, 1) := by decide +kernel
theorem dL_law_950 : decode cL_law 950 = .ok (.iload 7, 2) := by decide +kernel
theorem dL_law_952 : decode cL_law 952 = .ok (.i2l, 1) := by decide +kernel
theorem dL_law_953 : decode cL_law 953 = .ok (.lcmp, 1) := by decide +kernel
theorem dL_law_954 : decode cL_law 954 = .ok (.ifCond .eq 5, 3) := by decide +kernel
theorem dL_law_957 : decode cL_law 957 = .ok (.iconst 0, 1) := by decide +kernel
theorem dL_law_958 : decode cL_law 958 = .ok (.ireturn, 1) := by decide +kernel
theorem dL_law_959 : decode cL_law 959 = .ok (.goto 1252, 3) := by decide +kernel
theorem dL_law_962 : decode cL_law 962 = .ok (.aload_n 1, 1) := by decide +kernel
theorem dL_law_963 : decode cL_law 963 = .ok (.aload_n 0, 1) := by decide +kernel
theorem dL_law_964 : decode cL_law 964 = .ok (.iload 5, 2) := by decide +kernel
theorem dL_law_966 : decode cL_law 966 = .ok (.iconst 1, 1) := by decide +kernel
theorem dL_law_967 : decode cL_law 967 = .ok (.iadd, 1) := by decide +kernel
theorem dL_law_968 : decode cL_law 968 = .ok (.iaload, 1) := by decide +kernel
theorem dL_law_969 : decode cL_law 969 = .ok (.aload_n 0, 1) := by decide +kernel
theorem dL_law_970 : decode cL_law 970 = .ok (.iload 5, 2) := by decide +kernel
theorem dL_law_972 : decode cL_law 972 = .ok (.iconst 2, 1) := by decide +kernel
theorem dL_law_973 : decode cL_law 973 = .ok (.iadd, 1) := by decide +kernel
theorem dL_law_974 : decode cL_law 974 = .ok (.iaload, 1) := by decide +kernel
theorem dL_law_975 : decode cL_law 975 = .ok (.aload_n 3, 1) := by decide +kernel
theorem dL_law_976 : decode cL_law 976 = .ok (.invokestatic 167, 3) := by decide +kernel
theorem dL_law_979 : decode cL_law 979 = .ok (.istore 6, 2) := by decide +kernel
theorem dL_law_981 : decode cL_law 981 = .ok (.aload_n 2, 1) := by decide +kernel
theorem dL_law_982 : decode cL_law 982 = .ok (.aload_n 0, 1) := by decide +kernel
theorem dL_law_983 : decode cL_law 983 = .ok (.iload 5, 2) := by decide +kernel
theorem dL_law_985 : decode cL_law 985 = .ok (.iconst 1, 1) := by decide +kernel
theorem dL_law_986 : decode cL_law 986 = .ok (.iadd, 1) := by decide +kernel
theorem dL_law_987 : decode cL_law 987 = .ok (.iaload, 1) := by decide +kernel
theorem dL_law_988 : decode cL_law 988 = .ok (.aload_n 0, 1) := by decide +kernel
theorem dL_law_989 : decode cL_law 989 = .ok (.iload 5, 2) := by decide +kernel
theorem dL_law_991 : decode cL_law 991 = .ok (.iconst 2, 1) := by decide +kernel
theorem dL_law_992 : decode cL_law 992 = .ok (.iadd, 1) := by decide +kernel
theorem dL_law_993 : decode cL_law 993 = .ok (.iaload, 1) := by decide +kernel
theorem dL_law_994 : decode cL_law 994 = .ok (.invokevirtual 169, 3) := by decide +kernel
theorem dL_law_997 : decode cL_law 997 = .ok (.istore 7, 2) := by decide +kernel
theorem dL_law_999 : decode cL_law 999 = .ok (.aload_n 2, 1) := by decide +kernel
theorem dL_law_1000 : decode cL_law 1000 = .ok (.invokevirtual 120, 3) := by decide +kernel
theorem dL_law_1003 : decode cL_law 1003 = .ok (.iload 6, 2) := by decide +kernel
theorem dL_law_1005 : decode cL_law 1005 = .ok (.if_icmp .eq 5, 3) := by decide +kernel
theorem dL_law_1008 : decode cL_law 1008 = .ok (.iconst 0, 1) := by decide +kernel
theorem dL_law_1009 : decode cL_law 1009 = .ok (.ireturn, 1) := by decide +kernel
theorem dL_law_1010 : decode cL_law 1010 = .ok (.iload 6, 2) := by decide +kernel
theorem dL_law_1012 : decode cL_law 1012 = .ok (.ifCond .ne 15, 3) := by decide +kernel
theorem dL_law_1015 : decode cL_law 1015 = .ok (.aload_n 3, 1) := by decide +kernel
theorem dL_law_1016 : decode cL_law 1016 = .ok (.iconst 0, 1) := by decide +kernel
theorem dL_law_1017 : decode cL_law 1017 = .ok (.laload, 1) := by decide +kernel
theorem dL_law_1018 : decode cL_law 1018 = .ok (.iload 7, 2) := by decide +kernel
theorem dL_law_1020 : decode cL_law 1020 = .ok (.i2l, 1) := by decide +kernel
theorem dL_law_1021 : decode cL_law 1021 = .ok (.lcmp, 1) := by decide +kernel
theorem dL_law_1022 : decode cL_law 1022 = .ok (.ifCond .eq 5, 3) := by decide +kernel
theorem dL_law_1025 : decode cL_law 1025 = .ok (.iconst 0, 1) := by decide +kernel
theorem dL_law_1026 : decode cL_law 1026 = .ok (.ireturn, 1) := by decide +kernel
theorem dL_law_1027 : decode cL_law 1027 = .ok (.goto 1184, 3) := by decide +kernel
theorem dL_law_1030 : decode cL_law 1030 = .ok (.aload_n 1, 1) := by decide +kernel
theorem dL_law_1031 : decode cL_law 1031 = .ok (.aload_n 0, 1) := by decide +kernel
theorem dL_law_1032 : decode cL_law 1032 = .ok (.iload 5, 2) := by decide +kernel
theorem dL_law_1034 : decode cL_law 1034 = .ok (.iconst 1, 1) := by decide +kernel
theorem dL_law_1035 : decode cL_law 1035 = .ok (.iadd, 1) := by decide +kernel
theorem dL_law_1036 : decode cL_law 1036 = .ok (.iaload, 1) := by decide +kernel
theorem dL_law_1037 : decode cL_law 1037 = .ok (.aload_n 3, 1) := by decide +kernel
theorem dL_law_1038 : decode cL_law 1038 = .ok (.invokestatic 170, 3) := by decide +kernel
theorem dL_law_1041 : decode cL_law 1041 = .ok (.istore 6, 2) := by decide +kernel
theorem dL_law_1043 : decode cL_law 1043 = .ok (.aload_n 2, 1) := by decide +kernel
theorem dL_law_1044 : decode cL_law 1044 = .ok (.aload_n 0, 1) := by decide +kernel
theorem dL_law_1045 : decode cL_law 1045 = .ok (.iload 5, 2) := by decide +kernel
theorem dL_law_1047 : decode cL_law 1047 = .ok (.iconst 1, 1) := by decide +kernel
theorem dL_law_1048 : decode cL_law 1048 = .ok (.iadd, 1) := by decide +kernel
theorem dL_law_1049 : decode cL_law 1049 = .ok (.iaload, 1) := by decide +kernel
theorem dL_law_1050 : decode cL_law 1050 = .ok (.invokevirtual 172, 3) := by decide +kernel
theorem dL_law_1053 : decode cL_law 1053 = .ok (.istore 7, 2) := by decide +kernel
theorem dL_law_1055 : decode cL_law 1055 = .ok (.aload_n 2, 1) := by decide +kernel
theorem dL_law_1056 : decode cL_law 1056 = .ok (.invokevirtual 120, 3) := by decide +kernel
theorem dL_law_1059 : decode cL_law 1059 = .ok (.iload 6, 2) := by decide +kernel
theorem dL_law_1061 : decode cL_law 1061 = .ok (.if_icmp .eq 5, 3) := by decide +kernel
theorem dL_law_1064 : decode cL_law 1064 = .ok (.iconst 0, 1) := by decide +kernel
theorem dL_law_1065 : decode cL_law 1065 = .ok (.ireturn, 1) := by decide +kernel
theorem dL_law_1066 : decode cL_law 1066 = .ok (.iload 6, 2) := by decide +kernel
theorem dL_law_1068 : decode cL_law 1068 = .ok (.ifCond .ne 15, 3) := by decide +kernel
theorem dL_law_1071 : decode cL_law 1071 = .ok (.aload_n 3, 1) := by decide +kernel
theorem dL_law_1072 : decode cL_law 1072 = .ok (.iconst 0, 1) := by decide +kernel
theorem dL_law_1073 : decode cL_law 1073 = .ok (.laload, 1) := by decide +kernel
theorem dL_law_1074 : decode cL_law 1074 = .ok (.iload 7, 2) := by decide +kernel
theorem dL_law_1076 : decode cL_law 1076 = .ok (.i2l, 1) := by decide +kernel
theorem dL_law_1077 : decode cL_law 1077 = .ok (.lcmp, 1) := by decide +kernel
theorem dL_law_1078 : decode cL_law 1078 = .ok (.ifCond .eq 5, 3) := by decide +kernel
theorem dL_law_1081 : decode cL_law 1081 = .ok (.iconst 0, 1) := by decide +kernel
theorem dL_law_1082 : decode cL_law 1082 = .ok (.ireturn, 1) := by decide +kernel
theorem dL_law_1083 : decode cL_law 1083 = .ok (.goto 1128, 3) := by decide +kernel
theorem dL_law_1086 : decode cL_law 1086 = .ok (.aload_n 1, 1) := by decide +kernel
theorem dL_law_1087 : decode cL_law 1087 = .ok (.aload_n 0, 1) := by decide +kernel
theorem dL_law_1088 : decode cL_law 1088 = .ok (.iload 5, 2) := by decide +kernel
theorem dL_law_1090 : decode cL_law 1090 = .ok (.iconst 1, 1) := by decide +kernel
theorem dL_law_1091 : decode cL_law 1091 = .ok (.iadd, 1) := by decide +kernel
theorem dL_law_1092 : decode cL_law 1092 = .ok (.iaload, 1) := by decide +kernel
theorem dL_law_1093 : decode cL_law 1093 = .ok (.aload_n 0, 1) := by decide +kernel
theorem dL_law_1094 : decode cL_law 1094 = .ok (.iload 5, 2) := by decide +kernel
theorem dL_law_1096 : decode cL_law 1096 = .ok (.iconst 2, 1) := by decide +kernel
theorem dL_law_1097 : decode cL_law 1097 = .ok (.iadd, 1) := by decide +kernel
theorem dL_law_1098 : decode cL_law 1098 = .ok (.iaload, 1) := by decide +kernel
theorem dL_law_1099 : decode cL_law 1099 = .ok (.aload_n 3, 1) := by decide +kernel
theorem dL_law_1100 : decode cL_law 1100 = .ok (.invokestatic 173, 3) := by decide +kernel
theorem dL_law_1103 : decode cL_law 1103 = .ok (.istore 6, 2) := by decide +kernel
theorem dL_law_1105 : decode cL_law 1105 = .ok (.aload_n 2, 1) := by decide +kernel
theorem dL_law_1106 : decode cL_law 1106 = .ok (.aload_n 0, 1) := by decide +kernel
theorem dL_law_1107 : decode cL_law 1107 = .ok (.iload 5, 2) := by decide +kernel
theorem dL_law_1109 : decode cL_law 1109 = .ok (.iconst 1, 1) := by decide +kernel
theorem dL_law_1110 : decode cL_law 1110 = .ok (.iadd, 1) := by decide +kernel
theorem dL_law_1111 : decode cL_law 1111 = .ok (.iaload, 1) := by decide +kernel
theorem dL_law_1112 : decode cL_law 1112 = .ok (.aload_n 0, 1) := by decide +kernel
theorem dL_law_1113 : decode cL_law 1113 = .ok (.iload 5, 2) := by decide +kernel
theorem dL_law_1115 : decode cL_law 1115 = .ok (.iconst 2, 1) := by decide +kernel
theorem dL_law_1116 : decode cL_law 1116 = .ok (.iadd, 1) := by decide +kernel
theorem dL_law_1117 : decode cL_law 1117 = .ok (.iaload, 1) := by decide +kernel
theorem dL_law_1118 : decode cL_law 1118 = .ok (.invokevirtual 175, 3) := by decide +kernel
theorem dL_law_1121 : decode cL_law 1121 = .ok (.istore 7, 2) := by decide +kernel
theorem dL_law_1123 : decode cL_law 1123 = .ok (.aload_n 2, 1) := by decide +kernel
theorem dL_law_1124 : decode cL_law 1124 = .ok (.invokevirtual 120, 3) := by decide +kernel
theorem dL_law_1127 : decode cL_law 1127 = .ok (.iload 6, 2) := by decide +kernel
theorem dL_law_1129 : decode cL_law 1129 = .ok (.if_icmp .eq 5, 3) := by decide +kernel
theorem dL_law_1132 : decode cL_law 1132 = .ok (.iconst 0, 1) := by decide +kernel
theorem dL_law_1133 : decode cL_law 1133 = .ok (.ireturn, 1) := by decide +kernel
theorem dL_law_1134 : decode cL_law 1134 = .ok (.iload 6, 2) := by decide +kernel
theorem dL_law_1136 : decode cL_law 1136 = .ok (.ifCond .ne 22, 3) := by decide +kernel
theorem dL_law_1139 : decode cL_law 1139 = .ok (.aload_n 3, 1) := by decide +kernel
theorem dL_law_1140 : decode cL_law 1140 = .ok (.iconst 0, 1) := by decide +kernel
theorem dL_law_1141 : decode cL_law 1141 = .ok (.laload, 1) := by decide +kernel
theorem dL_law_1142 : decode cL_law 1142 = .ok (.iload 7, 2) := by decide +kernel
theorem dL_law_1144 : decode cL_law 1144 = .ok (.ifCond .eq 7, 3) := by decide +kernel
theorem dL_law_1147 : decode cL_law 1147 = .ok (.lconst 1, 1) := by decide +kernel
theorem dL_law_1148 : decode cL_law 1148 = .ok (.goto 4, 3) := by decide +kernel
theorem dL_law_1151 : decode cL_law 1151 = .ok (.lconst 0, 1) := by decide +kernel
theorem dL_law_1152 : decode cL_law 1152 = .ok (.lcmp, 1) := by decide +kernel
theorem dL_law_1153 : decode cL_law 1153 = .ok (.ifCond .eq 5, 3) := by decide +kernel
theorem dL_law_1156 : decode cL_law 1156 = .ok (.iconst 0, 1) := by decide +kernel
theorem dL_law_1157 : decode cL_law 1157 = .ok (.ireturn, 1) := by decide +kernel
theorem dL_law_1158 : decode cL_law 1158 = .ok (.goto 1053, 3) := by decide +kernel
theorem dL_law_1161 : decode cL_law 1161 = .ok (.aload_n 1, 1) := by decide +kernel
theorem dL_law_1162 : decode cL_law 1162 = .ok (.aload_n 0, 1) := by decide +kernel
theorem dL_law_1163 : decode cL_law 1163 = .ok (.iload 5, 2) := by decide +kernel
theorem dL_law_1165 : decode cL_law 1165 = .ok (.iconst 1, 1) := by decide +kernel
theorem dL_law_1166 : decode cL_law 1166 = .ok (.iadd, 1) := by decide +kernel
theorem dL_law_1167 : decode cL_law 1167 = .ok (.iaload, 1) := by decide +kernel
theorem dL_law_1168 : decode cL_law 1168 = .ok (.aload_n 0, 1) := by decide +kernel
theorem dL_law_1169 : decode cL_law 1169 = .ok (.iload 5, 2) := by decide +kernel
theorem dL_law_1171 : decode cL_law 1171 = .ok (.iconst 2, 1) := by decide +kernel
theorem dL_law_1172 : decode cL_law 1172 = .ok (.iadd, 1) := by decide +kernel
theorem dL_law_1173 : decode cL_law 1173 = .ok (.iaload, 1) := by decide +kernel
theorem dL_law_1174 : decode cL_law 1174 = .ok (.aload_n 3, 1) := by decide +kernel
theorem dL_law_1175 : decode cL_law 1175 = .ok (.invokestatic 176, 3) := by decide +kernel
theorem dL_law_1178 : decode cL_law 1178 = .ok (.istore 6, 2) := by decide +kernel
theorem dL_law_1180 : decode cL_law 1180 = .ok (.aload_n 2, 1) := by decide +kernel
theorem dL_law_1181 : decode cL_law 1181 = .ok (.aload_n 0, 1) := by decide +kernel
theorem dL_law_1182 : decode cL_law 1182 = .ok (.iload 5, 2) := by decide +kernel
theorem dL_law_1184 : decode cL_law 1184 = .ok (.iconst 1, 1) := by decide +kernel
theorem dL_law_1185 : decode cL_law 1185 = .ok (.iadd, 1) := by decide +kernel
theorem dL_law_1186 : decode cL_law 1186 = .ok (.iaload, 1) := by decide +kernel
theorem dL_law_1187 : decode cL_law 1187 = .ok (.aload_n 0, 1) := by decide +kernel
theorem dL_law_1188 : decode cL_law 1188 = .ok (.iload 5, 2) := by decide +kernel
theorem dL_law_1190 : decode cL_law 1190 = .ok (.iconst 2, 1) := by decide +kernel
theorem dL_law_1191 : decode cL_law 1191 = .ok (.iadd, 1) := by decide +kernel
theorem dL_law_1192 : decode cL_law 1192 = .ok (.iaload, 1) := by decide +kernel
theorem dL_law_1193 : decode cL_law 1193 = .ok (.invokevirtual 178, 3) := by decide +kernel
theorem dL_law_1196 : decode cL_law 1196 = .ok (.istore 7, 2) := by decide +kernel
theorem dL_law_1198 : decode cL_law 1198 = .ok (.aload_n 2, 1) := by decide +kernel
theorem dL_law_1199 : decode cL_law 1199 = .ok (.invokevirtual 120, 3) := by decide +kernel
theorem dL_law_1202 : decode cL_law 1202 = .ok (.iload 6, 2) := by decide +kernel
theorem dL_law_1204 : decode cL_law 1204 = .ok (.if_icmp .eq 5, 3) := by decide +kernel
theorem dL_law_1207 : decode cL_law 1207 = .ok (.iconst 0, 1) := by decide +kernel
theorem dL_law_1208 : decode cL_law 1208 = .ok (.ireturn, 1) := by decide +kernel
theorem dL_law_1209 : decode cL_law 1209 = .ok (.iload 6, 2) := by decide +kernel
theorem dL_law_1211 : decode cL_law 1211 = .ok (.ifCond .ne 15, 3) := by decide +kernel
theorem dL_law_1214 : decode cL_law 1214 = .ok (.aload_n 3, 1) := by decide +kernel
theorem dL_law_1215 : decode cL_law 1215 = .ok (.iconst 0, 1) := by decide +kernel
theorem dL_law_1216 : decode cL_law 1216 = .ok (.laload, 1) := by decide +kernel
theorem dL_law_1217 : decode cL_law 1217 = .ok (.iload 7, 2) := by decide +kernel
theorem dL_law_1219 : decode cL_law 1219 = .ok (.i2l, 1) := by decide +kernel
theorem dL_law_1220 : decode cL_law 1220 = .ok (.lcmp, 1) := by decide +kernel
theorem dL_law_1221 : decode cL_law 1221 = .ok (.ifCond .eq 5, 3) := by decide +kernel
theorem dL_law_1224 : decode cL_law 1224 = .ok (.iconst 0, 1) := by decide +kernel
theorem dL_law_1225 : decode cL_law 1225 = .ok (.ireturn, 1) := by decide +kernel
theorem dL_law_1226 : decode cL_law 1226 = .ok (.goto 985, 3) := by decide +kernel
theorem dL_law_1229 : decode cL_law 1229 = .ok (.aload_n 1, 1) := by decide +kernel
theorem dL_law_1230 : decode cL_law 1230 = .ok (.aload_n 0, 1) := by decide +kernel
theorem dL_law_1231 : decode cL_law 1231 = .ok (.iload 5, 2) := by decide +kernel
theorem dL_law_1233 : decode cL_law 1233 = .ok (.iconst 1, 1) := by decide +kernel
theorem dL_law_1234 : decode cL_law 1234 = .ok (.iadd, 1) := by decide +kernel
theorem dL_law_1235 : decode cL_law 1235 = .ok (.iaload, 1) := by decide +kernel
theorem dL_law_1236 : decode cL_law 1236 = .ok (.aload_n 0, 1) := by decide +kernel
theorem dL_law_1237 : decode cL_law 1237 = .ok (.iload 5, 2) := by decide +kernel
theorem dL_law_1239 : decode cL_law 1239 = .ok (.iconst 2, 1) := by decide +kernel
theorem dL_law_1240 : decode cL_law 1240 = .ok (.iadd, 1) := by decide +kernel
theorem dL_law_1241 : decode cL_law 1241 = .ok (.iaload, 1) := by decide +kernel
theorem dL_law_1242 : decode cL_law 1242 = .ok (.aload_n 3, 1) := by decide +kernel
theorem dL_law_1243 : decode cL_law 1243 = .ok (.invokestatic 179, 3) := by decide +kernel
theorem dL_law_1246 : decode cL_law 1246 = .ok (.istore 6, 2) := by decide +kernel
theorem dL_law_1248 : decode cL_law 1248 = .ok (.aload_n 2, 1) := by decide +kernel
theorem dL_law_1249 : decode cL_law 1249 = .ok (.aload_n 0, 1) := by decide +kernel
theorem dL_law_1250 : decode cL_law 1250 = .ok (.iload 5, 2) := by decide +kernel
theorem dL_law_1252 : decode cL_law 1252 = .ok (.iconst 1, 1) := by decide +kernel
theorem dL_law_1253 : decode cL_law 1253 = .ok (.iadd, 1) := by decide +kernel
theorem dL_law_1254 : decode cL_law 1254 = .ok (.iaload, 1) := by decide +kernel
theorem dL_law_1255 : decode cL_law 1255 = .ok (.aload_n 0, 1) := by decide +kernel
theorem dL_law_1256 : decode cL_law 1256 = .ok (.iload 5, 2) := by decide +kernel
theorem dL_law_1258 : decode cL_law 1258 = .ok (.iconst 2, 1) := by decide +kernel
theorem dL_law_1259 : decode cL_law 1259 = .ok (.iadd, 1) := by decide +kernel
theorem dL_law_1260 : decode cL_law 1260 = .ok (.iaload, 1) := by decide +kernel
theorem dL_law_1261 : decode cL_law 1261 = .ok (.invokevirtual 181, 3) := by decide +kernel
theorem dL_law_1264 : decode cL_law 1264 = .ok (.istore 7, 2) := by decide +kernel
theorem dL_law_1266 : decode cL_law 1266 = .ok (.aload_n 2, 1) := by decide +kernel
theorem dL_law_1267 : decode cL_law 1267 = .ok (.invokevirtual 120, 3) := by decide +kernel
theorem dL_law_1270 : decode cL_law 1270 = .ok (.iload 6, 2) := by decide +kernel
theorem dL_law_1272 : decode cL_law 1272 = .ok (.if_icmp .eq 5, 3) := by decide +kernel
theorem dL_law_1275 : decode cL_law 1275 = .ok (.iconst 0, 1) := by decide +kernel
theorem dL_law_1276 : decode cL_law 1276 = .ok (.ireturn, 1) := by decide +kernel
theorem dL_law_1277 : decode cL_law 1277 = .ok (.iload 6, 2) := by decide +kernel
theorem dL_law_1279 : decode cL_law 1279 = .ok (.ifCond .ne 15, 3) := by decide +kernel
theorem dL_law_1282 : decode cL_law 1282 = .ok (.aload_n 3, 1) := by decide +kernel
theorem dL_law_1283 : decode cL_law 1283 = .ok (.iconst 0, 1) := by decide +kernel
theorem dL_law_1284 : decode cL_law 1284 = .ok (.laload, 1) := by decide +kernel
theorem dL_law_1285 : decode cL_law 1285 = .ok (.iload 7, 2) := by decide +kernel
theorem dL_law_1287 : decode cL_law 1287 = .ok (.i2l, 1) := by decide +kernel
theorem dL_law_1288 : decode cL_law 1288 = .ok (.lcmp, 1) := by decide +kernel
theorem dL_law_1289 : decode cL_law 1289 = .ok (.ifCond .eq 5, 3) := by decide +kernel
theorem dL_law_1292 : decode cL_law 1292 = .ok (.iconst 0, 1) := by decide +kernel
theorem dL_law_1293 : decode cL_law 1293 = .ok (.ireturn, 1) := by decide +kernel
theorem dL_law_1294 : decode cL_law 1294 = .ok (.goto 917, 3) := by decide +kernel
theorem dL_law_1297 : decode cL_law 1297 = .ok (.aload_n 1, 1) := by decide +kernel
theorem dL_law_1298 : decode cL_law 1298 = .ok (.aload_n 0, 1) := by decide +kernel
theorem dL_law_1299 : decode cL_law 1299 = .ok (.iload 5, 2) := by decide +kernel
theorem dL_law_1301 : decode cL_law 1301 = .ok (.iconst 1, 1) := by decide +kernel
theorem dL_law_1302 : decode cL_law 1302 = .ok (.iadd, 1) := by decide +kernel
theorem dL_law_1303 : decode cL_law 1303 = .ok (.iaload, 1) := by decide +kernel
theorem dL_law_1304 : decode cL_law 1304 = .ok (.aload_n 0, 1) := by decide +kernel
theorem dL_law_1305 : decode cL_law 1305 = .ok (.iload 5, 2) := by decide +kernel
theorem dL_law_1307 : decode cL_law 1307 = .ok (.iconst 2, 1) := by decide +kernel
theorem dL_law_1308 : decode cL_law 1308 = .ok (.iadd, 1) := by decide +kernel
theorem dL_law_1309 : decode cL_law 1309 = .ok (.iaload, 1) := by decide +kernel
theorem dL_law_1310 : decode cL_law 1310 = .ok (.aload_n 3, 1) := by decide +kernel
theorem dL_law_1311 : decode cL_law 1311 = .ok (.invokestatic 182, 3) := by decide +kernel
theorem dL_law_1314 : decode cL_law 1314 = .ok (.istore 6, 2) := by decide +kernel
theorem dL_law_1316 : decode cL_law 1316 = .ok (.aload_n 2, 1) := by decide +kernel
theorem dL_law_1317 : decode cL_law 1317 = .ok (.aload_n 0, 1) := by decide +kernel
theorem dL_law_1318 : decode cL_law 1318 = .ok (.iload 5, 2) := by decide +kernel
theorem dL_law_1320 : decode cL_law 1320 = .ok (.iconst 1, 1) := by decide +kernel
theorem dL_law_1321 : decode cL_law 1321 = .ok (.iadd, 1) := by decide +kernel
theorem dL_law_1322 : decode cL_law 1322 = .ok (.iaload, 1) := by decide +kernel
theorem dL_law_1323 : decode cL_law 1323 = .ok (.aload_n 0, 1) := by decide +kernel
theorem dL_law_1324 : decode cL_law 1324 = .ok (.iload 5, 2) := by decide +kernel
theorem dL_law_1326 : decode cL_law 1326 = .ok (.iconst 2, 1) := by decide +kernel
theorem dL_law_1327 : decode cL_law 1327 = .ok (.iadd, 1) := by decide +kernel
theorem dL_law_1328 : decode cL_law 1328 = .ok (.iaload, 1) := by decide +kernel
theorem dL_law_1329 : decode cL_law 1329 = .ok (.invokevirtual 184, 3) := by decide +kernel
theorem dL_law_1332 : decode cL_law 1332 = .ok (.istore 7, 2) := by decide +kernel
theorem dL_law_1334 : decode cL_law 1334 = .ok (.aload_n 2, 1) := by decide +kernel
theorem dL_law_1335 : decode cL_law 1335 = .ok (.invokevirtual 120, 3) := by decide +kernel
theorem dL_law_1338 : decode cL_law 1338 = .ok (.iload 6, 2) := by decide +kernel
theorem dL_law_1340 : decode cL_law 1340 = .ok (.if_icmp .eq 5, 3) := by decide +kernel
theorem dL_law_1343 : decode cL_law 1343 = .ok (.iconst 0, 1) := by decide +kernel
theorem dL_law_1344 : decode cL_law 1344 = .ok (.ireturn, 1) := by decide +kernel
theorem dL_law_1345 : decode cL_law 1345 = .ok (.iload 6, 2) := by decide +kernel
theorem dL_law_1347 : decode cL_law 1347 = .ok (.ifCond .ne 15, 3) := by decide +kernel
theorem dL_law_1350 : decode cL_law 1350 = .ok (.aload_n 3, 1) := by decide +kernel
theorem dL_law_1351 : decode cL_law 1351 = .ok (.iconst 0, 1) := by decide +kernel
theorem dL_law_1352 : decode cL_law 1352 = .ok (.laload, 1) := by decide +kernel
theorem dL_law_1353 : decode cL_law 1353 = .ok (.iload 7, 2) := by decide +kernel
theorem dL_law_1355 : decode cL_law 1355 = .ok (.i2l, 1) := by decide +kernel
theorem dL_law_1356 : decode cL_law 1356 = .ok (.lcmp, 1) := by decide +kernel
theorem dL_law_1357 : decode cL_law 1357 = .ok (.ifCond .eq 5, 3) := by decide +kernel
theorem dL_law_1360 : decode cL_law 1360 = .ok (.iconst 0, 1) := by decide +kernel
theorem dL_law_1361 : decode cL_law 1361 = .ok (.ireturn, 1) := by decide +kernel
theorem dL_law_1362 : decode cL_law 1362 = .ok (.goto 849, 3) := by decide +kernel
theorem dL_law_1365 : decode cL_law 1365 = .ok (.aload_n 1, 1) := by decide +kernel
theorem dL_law_1366 : decode cL_law 1366 = .ok (.aload_n 0, 1) := by decide +kernel
theorem dL_law_1367 : decode cL_law 1367 = .ok (.iload 5, 2) := by decide +kernel
theorem dL_law_1369 : decode cL_law 1369 = .ok (.iconst 1, 1) := by decide +kernel
theorem dL_law_1370 : decode cL_law 1370 = .ok (.iadd, 1) := by decide +kernel
theorem dL_law_1371 : decode cL_law 1371 = .ok (.iaload, 1) := by decide +kernel
theorem dL_law_1372 : decode cL_law 1372 = .ok (.aload_n 0, 1) := by decide +kernel
theorem dL_law_1373 : decode cL_law 1373 = .ok (.iload 5, 2) := by decide +kernel
theorem dL_law_1375 : decode cL_law 1375 = .ok (.iconst 2, 1) := by decide +kernel
theorem dL_law_1376 : decode cL_law 1376 = .ok (.iadd, 1) := by decide +kernel
theorem dL_law_1377 : decode cL_law 1377 = .ok (.iaload, 1) := by decide +kernel
theorem dL_law_1378 : decode cL_law 1378 = .ok (.aload_n 3, 1) := by decide +kernel
theorem dL_law_1379 : decode cL_law 1379 = .ok (.invokestatic 185, 3) := by decide +kernel
theorem dL_law_1382 : decode cL_law 1382 = .ok (.istore 6, 2) := by decide +kernel
theorem dL_law_1384 : decode cL_law 1384 = .ok (.aload_n 2, 1) := by decide +kernel
theorem dL_law_1385 : decode cL_law 1385 = .ok (.aload_n 0, 1) := by decide +kernel
theorem dL_law_1386 : decode cL_law 1386 = .ok (.iload 5, 2) := by decide +kernel
theorem dL_law_1388 : decode cL_law 1388 = .ok (.iconst 1, 1) := by decide +kernel
theorem dL_law_1389 : decode cL_law 1389 = .ok (.iadd, 1) := by decide +kernel
theorem dL_law_1390 : decode cL_law 1390 = .ok (.iaload, 1) := by decide +kernel
theorem dL_law_1391 : decode cL_law 1391 = .ok (.aload_n 0, 1) := by decide +kernel
theorem dL_law_1392 : decode cL_law 1392 = .ok (.iload 5, 2) := by decide +kernel
theorem dL_law_1394 : decode cL_law 1394 = .ok (.iconst 2, 1) := by decide +kernel
theorem dL_law_1395 : decode cL_law 1395 = .ok (.iadd, 1) := by decide +kernel
theorem dL_law_1396 : decode cL_law 1396 = .ok (.iaload, 1) := by decide +kernel
theorem dL_law_1397 : decode cL_law 1397 = .ok (.invokevirtual 187, 3) := by decide +kernel
theorem dL_law_1400 : decode cL_law 1400 = .ok (.istore 7, 2) := by decide +kernel
theorem dL_law_1402 : decode cL_law 1402 = .ok (.aload_n 2, 1) := by decide +kernel
theorem dL_law_1403 : decode cL_law 1403 = .ok (.invokevirtual 120, 3) := by decide +kernel
theorem dL_law_1406 : decode cL_law 1406 = .ok (.iload 6, 2) := by decide +kernel
theorem dL_law_1408 : decode cL_law 1408 = .ok (.if_icmp .eq 5, 3) := by decide +kernel
theorem dL_law_1411 : decode cL_law 1411 = .ok (.iconst 0, 1) := by decide +kernel
theorem dL_law_1412 : decode cL_law 1412 = .ok (.ireturn, 1) := by decide +kernel
theorem dL_law_1413 : decode cL_law 1413 = .ok (.iload 6, 2) := by decide +kernel
theorem dL_law_1415 : decode cL_law 1415 = .ok (.ifCond .ne 15, 3) := by decide +kernel
theorem dL_law_1418 : decode cL_law 1418 = .ok (.aload_n 3, 1) := by decide +kernel
theorem dL_law_1419 : decode cL_law 1419 = .ok (.iconst 0, 1) := by decide +kernel
theorem dL_law_1420 : decode cL_law 1420 = .ok (.laload, 1) := by decide +kernel
theorem dL_law_1421 : decode cL_law 1421 = .ok (.iload 7, 2) := by decide +kernel
theorem dL_law_1423 : decode cL_law 1423 = .ok (.i2l, 1) := by decide +kernel
theorem dL_law_1424 : decode cL_law 1424 = .ok (.lcmp, 1) := by decide +kernel
theorem dL_law_1425 : decode cL_law 1425 = .ok (.ifCond .eq 5, 3) := by decide +kernel
theorem dL_law_1428 : decode cL_law 1428 = .ok (.iconst 0, 1) := by decide +kernel
theorem dL_law_1429 : decode cL_law 1429 = .ok (.ireturn, 1) := by decide +kernel
theorem dL_law_1430 : decode cL_law 1430 = .ok (.goto 781, 3) := by decide +kernel
theorem dL_law_1433 : decode cL_law 1433 = .ok (.aload_n 1, 1) := by decide +kernel
theorem dL_law_1434 : decode cL_law 1434 = .ok (.aload_n 0, 1) := by decide +kernel
theorem dL_law_1435 : decode cL_law 1435 = .ok (.iload 5, 2) := by decide +kernel
theorem dL_law_1437 : decode cL_law 1437 = .ok (.iconst 1, 1) := by decide +kernel
theorem dL_law_1438 : decode cL_law 1438 = .ok (.iadd, 1) := by decide +kernel
theorem dL_law_1439 : decode cL_law 1439 = .ok (.iaload, 1) := by decide +kernel
theorem dL_law_1440 : decode cL_law 1440 = .ok (.aload_n 0, 1) := by decide +kernel
theorem dL_law_1441 : decode cL_law 1441 = .ok (.iload 5, 2) := by decide +kernel
theorem dL_law_1443 : decode cL_law 1443 = .ok (.iconst 2, 1) := by decide +kernel
theorem dL_law_1444 : decode cL_law 1444 = .ok (.iadd, 1) := by decide +kernel
theorem dL_law_1445 : decode cL_law 1445 = .ok (.iaload, 1) := by decide +kernel
theorem dL_law_1446 : decode cL_law 1446 = .ok (.aload_n 3, 1) := by decide +kernel
theorem dL_law_1447 : decode cL_law 1447 = .ok (.invokestatic 188, 3) := by decide +kernel
theorem dL_law_1450 : decode cL_law 1450 = .ok (.istore 6, 2) := by decide +kernel
theorem dL_law_1452 : decode cL_law 1452 = .ok (.aload_n 2, 1) := by decide +kernel
theorem dL_law_1453 : decode cL_law 1453 = .ok (.aload_n 0, 1) := by decide +kernel
theorem dL_law_1454 : decode cL_law 1454 = .ok (.iload 5, 2) := by decide +kernel
theorem dL_law_1456 : decode cL_law 1456 = .ok (.iconst 1, 1) := by decide +kernel
theorem dL_law_1457 : decode cL_law 1457 = .ok (.iadd, 1) := by decide +kernel
theorem dL_law_1458 : decode cL_law 1458 = .ok (.iaload, 1) := by decide +kernel
theorem dL_law_1459 : decode cL_law 1459 = .ok (.aload_n 0, 1) := by decide +kernel
theorem dL_law_1460 : decode cL_law 1460 = .ok (.iload 5, 2) := by decide +kernel
theorem dL_law_1462 : decode cL_law 1462 = .ok (.iconst 2, 1) := by decide +kernel
theorem dL_law_1463 : decode cL_law 1463 = .ok (.iadd, 1) := by decide +kernel
theorem dL_law_1464 : decode cL_law 1464 = .ok (.iaload, 1) := by decide +kernel
theorem dL_law_1465 : decode cL_law 1465 = .ok (.invokevirtual 190, 3) := by decide +kernel
theorem dL_law_1468 : decode cL_law 1468 = .ok (.istore 7, 2) := by decide +kernel
theorem dL_law_1470 : decode cL_law 1470 = .ok (.aload_n 2, 1) := by decide +kernel
theorem dL_law_1471 : decode cL_law 1471 = .ok (.invokevirtual 120, 3) := by decide +kernel
theorem dL_law_1474 : decode cL_law 1474 = .ok (.iload 6, 2) := by decide +kernel
theorem dL_law_1476 : decode cL_law 1476 = .ok (.if_icmp .eq 5, 3) := by decide +kernel
theorem dL_law_1479 : decode cL_law 1479 = .ok (.iconst 0, 1) := by decide +kernel
theorem dL_law_1480 : decode cL_law 1480 = .ok (.ireturn, 1) := by decide +kernel
theorem dL_law_1481 : decode cL_law 1481 = .ok (.iload 6, 2) := by decide +kernel
theorem dL_law_1483 : decode cL_law 1483 = .ok (.ifCond .ne 15, 3) := by decide +kernel
theorem dL_law_1486 : decode cL_law 1486 = .ok (.aload_n 3, 1) := by decide +kernel
theorem dL_law_1487 : decode cL_law 1487 = .ok (.iconst 0, 1) := by decide +kernel
theorem dL_law_1488 : decode cL_law 1488 = .ok (.laload, 1) := by decide +kernel
theorem dL_law_1489 : decode cL_law 1489 = .ok (.iload 7, 2) := by decide +kernel
theorem dL_law_1491 : decode cL_law 1491 = .ok (.i2l, 1) := by decide +kernel
theorem dL_law_1492 : decode cL_law 1492 = .ok (.lcmp, 1) := by decide +kernel
theorem dL_law_1493 : decode cL_law 1493 = .ok (.ifCond .eq 5, 3) := by decide +kernel
theorem dL_law_1496 : decode cL_law 1496 = .ok (.iconst 0, 1) := by decide +kernel
theorem dL_law_1497 : decode cL_law 1497 = .ok (.ireturn, 1) := by decide +kernel
theorem dL_law_1498 : decode cL_law 1498 = .ok (.goto 713, 3) := by decide +kernel
theorem dL_law_1501 : decode cL_law 1501 = .ok (.aload_n 1, 1) := by decide +kernel
theorem dL_law_1502 : decode cL_law 1502 = .ok (.aload_n 0, 1) := by decide +kernel
theorem dL_law_1503 : decode cL_law 1503 = .ok (.iload 5, 2) := by decide +kernel
theorem dL_law_1505 : decode cL_law 1505 = .ok (.iconst 1, 1) := by decide +kernel
theorem dL_law_1506 : decode cL_law 1506 = .ok (.iadd, 1) := by decide +kernel
theorem dL_law_1507 : decode cL_law 1507 = .ok (.iaload, 1) := by decide +kernel
theorem dL_law_1508 : decode cL_law 1508 = .ok (.aload_n 0, 1) := by decide +kernel
theorem dL_law_1509 : decode cL_law 1509 = .ok (.iload 5, 2) := by decide +kernel
theorem dL_law_1511 : decode cL_law 1511 = .ok (.iconst 2, 1) := by decide +kernel
theorem dL_law_1512 : decode cL_law 1512 = .ok (.iadd, 1) := by decide +kernel
theorem dL_law_1513 : decode cL_law 1513 = .ok (.iaload, 1) := by decide +kernel
theorem dL_law_1514 : decode cL_law 1514 = .ok (.aload_n 3, 1) := by decide +kernel
theorem dL_law_1515 : decode cL_law 1515 = .ok (.invokestatic 191, 3) := by decide +kernel
theorem dL_law_1518 : decode cL_law 1518 = .ok (.istore 6, 2) := by decide +kernel
theorem dL_law_1520 : decode cL_law 1520 = .ok (.aload_n 2, 1) := by decide +kernel
theorem dL_law_1521 : decode cL_law 1521 = .ok (.aload_n 0, 1) := by decide +kernel
theorem dL_law_1522 : decode cL_law 1522 = .ok (.iload 5, 2) := by decide +kernel
theorem dL_law_1524 : decode cL_law 1524 = .ok (.iconst 1, 1) := by decide +kernel
theorem dL_law_1525 : decode cL_law 1525 = .ok (.iadd, 1) := by decide +kernel
theorem dL_law_1526 : decode cL_law 1526 = .ok (.iaload, 1) := by decide +kernel
theorem dL_law_1527 : decode cL_law 1527 = .ok (.aload_n 0, 1) := by decide +kernel
theorem dL_law_1528 : decode cL_law 1528 = .ok (.iload 5, 2) := by decide +kernel
theorem dL_law_1530 : decode cL_law 1530 = .ok (.iconst 2, 1) := by decide +kernel
theorem dL_law_1531 : decode cL_law 1531 = .ok (.iadd, 1) := by decide +kernel
theorem dL_law_1532 : decode cL_law 1532 = .ok (.iaload, 1) := by decide +kernel
theorem dL_law_1533 : decode cL_law 1533 = .ok (.invokevirtual 193, 3) := by decide +kernel
theorem dL_law_1536 : decode cL_law 1536 = .ok (.istore 7, 2) := by decide +kernel
theorem dL_law_1538 : decode cL_law 1538 = .ok (.aload_n 2, 1) := by decide +kernel
theorem dL_law_1539 : decode cL_law 1539 = .ok (.invokevirtual 120, 3) := by decide +kernel
theorem dL_law_1542 : decode cL_law 1542 = .ok (.iload 6, 2) := by decide +kernel
theorem dL_law_1544 : decode cL_law 1544 = .ok (.if_icmp .eq 5, 3) := by decide +kernel
theorem dL_law_1547 : decode cL_law 1547 = .ok (.iconst 0, 1) := by decide +kernel
theorem dL_law_1548 : decode cL_law 1548 = .ok (.ireturn, 1) := by decide +kernel
theorem dL_law_1549 : decode cL_law 1549 = .ok (.iload 6, 2) := by decide +kernel
theorem dL_law_1551 : decode cL_law 1551 = .ok (.ifCond .ne 15, 3) := by decide +kernel
theorem dL_law_1554 : decode cL_law 1554 = .ok (.aload_n 3, 1) := by decide +kernel
theorem dL_law_1555 : decode cL_law 1555 = .ok (.iconst 0, 1) := by decide +kernel
theorem dL_law_1556 : decode cL_law 1556 = .ok (.laload, 1) := by decide +kernel
theorem dL_law_1557 : decode cL_law 1557 = .ok (.iload 7, 2) := by decide +kernel
theorem dL_law_1559 : decode cL_law 1559 = .ok (.i2l, 1) := by decide +kernel
theorem dL_law_1560 : decode cL_law 1560 = .ok (.lcmp, 1) := by decide +kernel
theorem dL_law_1561 : decode cL_law 1561 = .ok (.ifCond .eq 5, 3) := by decide +kernel
theorem dL_law_1564 : decode cL_law 1564 = .ok (.iconst 0, 1) := by decide +kernel
theorem dL_law_1565 : decode cL_law 1565 = .ok (.ireturn, 1) := by decide +kernel
theorem dL_law_1566 : decode cL_law 1566 = .ok (.goto 645, 3) := by decide +kernel
theorem dL_law_1569 : decode cL_law 1569 = .ok (.aload_n 1, 1) := by decide +kernel
theorem dL_law_1570 : decode cL_law 1570 = .ok (.aload_n 0, 1) := by decide +kernel
theorem dL_law_1571 : decode cL_law 1571 = .ok (.iload 5, 2) := by decide +kernel
theorem dL_law_1573 : decode cL_law 1573 = .ok (.iconst 1, 1) := by decide +kernel
theorem dL_law_1574 : decode cL_law 1574 = .ok (.iadd, 1) := by decide +kernel
theorem dL_law_1575 : decode cL_law 1575 = .ok (.iaload, 1) := by decide +kernel
theorem dL_law_1576 : decode cL_law 1576 = .ok (.aload_n 0, 1) := by decide +kernel
theorem dL_law_1577 : decode cL_law 1577 = .ok (.iload 5, 2) := by decide +kernel
theorem dL_law_1579 : decode cL_law 1579 = .ok (.iconst 2, 1) := by decide +kernel
theorem dL_law_1580 : decode cL_law 1580 = .ok (.iadd, 1) := by decide +kernel
theorem dL_law_1581 : decode cL_law 1581 = .ok (.iaload, 1) := by decide +kernel
theorem dL_law_1582 : decode cL_law 1582 = .ok (.aload_n 3, 1) := by decide +kernel
theorem dL_law_1583 : decode cL_law 1583 = .ok (.invokestatic 194, 3) := by decide +kernel
theorem dL_law_1586 : decode cL_law 1586 = .ok (.istore 6, 2) := by decide +kernel
theorem dL_law_1588 : decode cL_law 1588 = .ok (.aload_n 2, 1) := by decide +kernel
theorem dL_law_1589 : decode cL_law 1589 = .ok (.aload_n 0, 1) := by decide +kernel
theorem dL_law_1590 : decode cL_law 1590 = .ok (.iload 5, 2) := by decide +kernel
theorem dL_law_1592 : decode cL_law 1592 = .ok (.iconst 1, 1) := by decide +kernel
theorem dL_law_1593 : decode cL_law 1593 = .ok (.iadd, 1) := by decide +kernel
theorem dL_law_1594 : decode cL_law 1594 = .ok (.iaload, 1) := by decide +kernel
theorem dL_law_1595 : decode cL_law 1595 = .ok (.aload_n 0, 1) := by decide +kernel
theorem dL_law_1596 : decode cL_law 1596 = .ok (.iload 5, 2) := by decide +kernel
theorem dL_law_1598 : decode cL_law 1598 = .ok (.iconst 2, 1) := by decide +kernel
theorem dL_law_1599 : decode cL_law 1599 = .ok (.iadd, 1) := by decide +kernel
theorem dL_law_1600 : decode cL_law 1600 = .ok (.iaload, 1) := by decide +kernel
theorem dL_law_1601 : decode cL_law 1601 = .ok (.invokevirtual 196, 3) := by decide +kernel
theorem dL_law_1604 : decode cL_law 1604 = .ok (.istore 7, 2) := by decide +kernel
theorem dL_law_1606 : decode cL_law 1606 = .ok (.aload_n 2, 1) := by decide +kernel
theorem dL_law_1607 : decode cL_law 1607 = .ok (.invokevirtual 120, 3) := by decide +kernel
theorem dL_law_1610 : decode cL_law 1610 = .ok (.iload 6, 2) := by decide +kernel
theorem dL_law_1612 : decode cL_law 1612 = .ok (.if_icmp .eq 5, 3) := by decide +kernel
theorem dL_law_1615 : decode cL_law 1615 = .ok (.iconst 0, 1) := by decide +kernel
theorem dL_law_1616 : decode cL_law 1616 = .ok (.ireturn, 1) := by decide +kernel
theorem dL_law_1617 : decode cL_law 1617 = .ok (.iload 6, 2) := by decide +kernel
theorem dL_law_1619 : decode cL_law 1619 = .ok (.ifCond .ne 15, 3) := by decide +kernel
theorem dL_law_1622 : decode cL_law 1622 = .ok (.aload_n 3, 1) := by decide +kernel
theorem dL_law_1623 : decode cL_law 1623 = .ok (.iconst 0, 1) := by decide +kernel
theorem dL_law_1624 : decode cL_law 1624 = .ok (.laload, 1) := by decide +kernel
theorem dL_law_1625 : decode cL_law 1625 = .ok (.iload 7, 2) := by decide +kernel
theorem dL_law_1627 : decode cL_law 1627 = .ok (.i2l, 1) := by decide +kernel
theorem dL_law_1628 : decode cL_law 1628 = .ok (.lcmp, 1) := by decide +kernel
theorem dL_law_1629 : decode cL_law 1629 = .ok (.ifCond .eq 5, 3) := by decide +kernel
theorem dL_law_1632 : decode cL_law 1632 = .ok (.iconst 0, 1) := by decide +kernel
theorem dL_law_1633 : decode cL_law 1633 = .ok (.ireturn, 1) := by decide +kernel
theorem dL_law_1634 : decode cL_law 1634 = .ok (.goto 577, 3) := by decide +kernel
theorem dL_law_1637 : decode cL_law 1637 = .ok (.aload_n 1, 1) := by decide +kernel
theorem dL_law_1638 : decode cL_law 1638 = .ok (.aload_n 0, 1) := by decide +kernel
theorem dL_law_1639 : decode cL_law 1639 = .ok (.iload 5, 2) := by decide +kernel
theorem dL_law_1641 : decode cL_law 1641 = .ok (.iconst 1, 1) := by decide +kernel
theorem dL_law_1642 : decode cL_law 1642 = .ok (.iadd, 1) := by decide +kernel
theorem dL_law_1643 : decode cL_law 1643 = .ok (.iaload, 1) := by decide +kernel
theorem dL_law_1644 : decode cL_law 1644 = .ok (.aload_n 3, 1) := by decide +kernel
theorem dL_law_1645 : decode cL_law 1645 = .ok (.invokestatic 197, 3) := by decide +kernel
theorem dL_law_1648 : decode cL_law 1648 = .ok (.istore 6, 2) := by decide +kernel
theorem dL_law_1650 : decode cL_law 1650 = .ok (.aload_n 2, 1) := by decide +kernel
theorem dL_law_1651 : decode cL_law 1651 = .ok (.aload_n 0, 1) := by decide +kernel
theorem dL_law_1652 : decode cL_law 1652 = .ok (.iload 5, 2) := by decide +kernel
theorem dL_law_1654 : decode cL_law 1654 = .ok (.iconst 1, 1) := by decide +kernel
theorem dL_law_1655 : decode cL_law 1655 = .ok (.iadd, 1) := by decide +kernel
theorem dL_law_1656 : decode cL_law 1656 = .ok (.iaload, 1) := by decide +kernel
theorem dL_law_1657 : decode cL_law 1657 = .ok (.invokevirtual 199, 3) := by decide +kernel
theorem dL_law_1660 : decode cL_law 1660 = .ok (.istore 7, 2) := by decide +kernel
theorem dL_law_1662 : decode cL_law 1662 = .ok (.aload_n 2, 1) := by decide +kernel
theorem dL_law_1663 : decode cL_law 1663 = .ok (.invokevirtual 120, 3) := by decide +kernel
theorem dL_law_1666 : decode cL_law 1666 = .ok (.iload 6, 2) := by decide +kernel
theorem dL_law_1668 : decode cL_law 1668 = .ok (.if_icmp .eq 5, 3) := by decide +kernel
theorem dL_law_1671 : decode cL_law 1671 = .ok (.iconst 0, 1) := by decide +kernel
theorem dL_law_1672 : decode cL_law 1672 = .ok (.ireturn, 1) := by decide +kernel
theorem dL_law_1673 : decode cL_law 1673 = .ok (.iload 6, 2) := by decide +kernel
theorem dL_law_1675 : decode cL_law 1675 = .ok (.ifCond .ne 15, 3) := by decide +kernel
theorem dL_law_1678 : decode cL_law 1678 = .ok (.aload_n 3, 1) := by decide +kernel
theorem dL_law_1679 : decode cL_law 1679 = .ok (.iconst 0, 1) := by decide +kernel
theorem dL_law_1680 : decode cL_law 1680 = .ok (.laload, 1) := by decide +kernel
theorem dL_law_1681 : decode cL_law 1681 = .ok (.iload 7, 2) := by decide +kernel
theorem dL_law_1683 : decode cL_law 1683 = .ok (.i2l, 1) := by decide +kernel
theorem dL_law_1684 : decode cL_law 1684 = .ok (.lcmp, 1) := by decide +kernel
theorem dL_law_1685 : decode cL_law 1685 = .ok (.ifCond .eq 5, 3) := by decide +kernel
theorem dL_law_1688 : decode cL_law 1688 = .ok (.iconst 0, 1) := by decide +kernel
theorem dL_law_1689 : decode cL_law 1689 = .ok (.ireturn, 1) := by decide +kernel
theorem dL_law_1690 : decode cL_law 1690 = .ok (.goto 521, 3) := by decide +kernel
theorem dL_law_1693 : decode cL_law 1693 = .ok (.aload_n 1, 1) := by decide +kernel
theorem dL_law_1694 : decode cL_law 1694 = .ok (.aload_n 0, 1) := by decide +kernel
theorem dL_law_1695 : decode cL_law 1695 = .ok (.iload 5, 2) := by decide +kernel
theorem dL_law_1697 : decode cL_law 1697 = .ok (.iconst 1, 1) := by decide +kernel
theorem dL_law_1698 : decode cL_law 1698 = .ok (.iadd, 1) := by decide +kernel
theorem dL_law_1699 : decode cL_law 1699 = .ok (.iaload, 1) := by decide +kernel
theorem dL_law_1700 : decode cL_law 1700 = .ok (.aload_n 0, 1) := by decide +kernel
theorem dL_law_1701 : decode cL_law 1701 = .ok (.iload 5, 2) := by decide +kernel
theorem dL_law_1703 : decode cL_law 1703 = .ok (.iconst 2, 1) := by decide +kernel
theorem dL_law_1704 : decode cL_law 1704 = .ok (.iadd, 1) := by decide +kernel
theorem dL_law_1705 : decode cL_law 1705 = .ok (.iaload, 1) := by decide +kernel
theorem dL_law_1706 : decode cL_law 1706 = .ok (.aload_n 0, 1) := by decide +kernel
theorem dL_law_1707 : decode cL_law 1707 = .ok (.iload 5, 2) := by decide +kernel
theorem dL_law_1709 : decode cL_law 1709 = .ok (.iconst 3, 1) := by decide +kernel
theorem dL_law_1710 : decode cL_law 1710 = .ok (.iadd, 1) := by decide +kernel
theorem dL_law_1711 : decode cL_law 1711 = .ok (.iaload, 1) := by decide +kernel
theorem dL_law_1712 : decode cL_law 1712 = .ok (.aload_n 3, 1) := by decide +kernel
theorem dL_law_1713 : decode cL_law 1713 = .ok (.invokestatic 200, 3) := by decide +kernel
theorem dL_law_1716 : decode cL_law 1716 = .ok (.istore 6, 2) := by decide +kernel
theorem dL_law_1718 : decode cL_law 1718 = .ok (.aload_n 2, 1) := by decide +kernel
theorem dL_law_1719 : decode cL_law 1719 = .ok (.aload_n 0, 1) := by decide +kernel
theorem dL_law_1720 : decode cL_law 1720 = .ok (.iload 5, 2) := by decide +kernel
theorem dL_law_1722 : decode cL_law 1722 = .ok (.iconst 1, 1) := by decide +kernel
theorem dL_law_1723 : decode cL_law 1723 = .ok (.iadd, 1) := by decide +kernel
theorem dL_law_1724 : decode cL_law 1724 = .ok (.iaload, 1) := by decide +kernel
theorem dL_law_1725 : decode cL_law 1725 = .ok (.aload_n 0, 1) := by decide +kernel
theorem dL_law_1726 : decode cL_law 1726 = .ok (.iload 5, 2) := by decide +kernel
theorem dL_law_1728 : decode cL_law 1728 = .ok (.iconst 2, 1) := by decide +kernel
theorem dL_law_1729 : decode cL_law 1729 = .ok (.iadd, 1) := by decide +kernel
theorem dL_law_1730 : decode cL_law 1730 = .ok (.iaload, 1) := by decide +kernel
theorem dL_law_1731 : decode cL_law 1731 = .ok (.aload_n 0, 1) := by decide +kernel
theorem dL_law_1732 : decode cL_law 1732 = .ok (.iload 5, 2) := by decide +kernel
theorem dL_law_1734 : decode cL_law 1734 = .ok (.iconst 3, 1) := by decide +kernel
theorem dL_law_1735 : decode cL_law 1735 = .ok (.iadd, 1) := by decide +kernel
theorem dL_law_1736 : decode cL_law 1736 = .ok (.iaload, 1) := by decide +kernel
theorem dL_law_1737 : decode cL_law 1737 = .ok (.invokevirtual 202, 3) := by decide +kernel
theorem dL_law_1740 : decode cL_law 1740 = .ok (.istore 7, 2) := by decide +kernel
theorem dL_law_1742 : decode cL_law 1742 = .ok (.aload_n 2, 1) := by decide +kernel
theorem dL_law_1743 : decode cL_law 1743 = .ok (.invokevirtual 120, 3) := by decide +kernel
theorem dL_law_1746 : decode cL_law 1746 = .ok (.iload 6, 2) := by decide +kernel
theorem dL_law_1748 : decode cL_law 1748 = .ok (.if_icmp .eq 5, 3) := by decide +kernel
theorem dL_law_1751 : decode cL_law 1751 = .ok (.iconst 0, 1) := by decide +kernel
theorem dL_law_1752 : decode cL_law 1752 = .ok (.ireturn, 1) := by decide +kernel
theorem dL_law_1753 : decode cL_law 1753 = .ok (.iload 6, 2) := by decide +kernel
theorem dL_law_1755 : decode cL_law 1755 = .ok (.ifCond .ne 15, 3) := by decide +kernel
theorem dL_law_1758 : decode cL_law 1758 = .ok (.aload_n 3, 1) := by decide +kernel
theorem dL_law_1759 : decode cL_law 1759 = .ok (.iconst 0, 1) := by decide +kernel
theorem dL_law_1760 : decode cL_law 1760 = .ok (.laload, 1) := by decide +kernel
theorem dL_law_1761 : decode cL_law 1761 = .ok (.iload 7, 2) := by decide +kernel
theorem dL_law_1763 : decode cL_law 1763 = .ok (.i2l, 1) := by decide +kernel
theorem dL_law_1764 : decode cL_law 1764 = .ok (.lcmp, 1) := by decide +kernel
theorem dL_law_1765 : decode cL_law 1765 = .ok (.ifCond .eq 5, 3) := by decide +kernel
theorem dL_law_1768 : decode cL_law 1768 = .ok (.iconst 0, 1) := by decide +kernel
theorem dL_law_1769 : decode cL_law 1769 = .ok (.ireturn, 1) := by decide +kernel
theorem dL_law_1770 : decode cL_law 1770 = .ok (.goto 441, 3) := by decide +kernel
theorem dL_law_1773 : decode cL_law 1773 = .ok (.aload_n 1, 1) := by decide +kernel
theorem dL_law_1774 : decode cL_law 1774 = .ok (.aload_n 0, 1) := by decide +kernel
theorem dL_law_1775 : decode cL_law 1775 = .ok (.iload 5, 2) := by decide +kernel
theorem dL_law_1777 : decode cL_law 1777 = .ok (.iconst 1, 1) := by decide +kernel
theorem dL_law_1778 : decode cL_law 1778 = .ok (.iadd, 1) := by decide +kernel
theorem dL_law_1779 : decode cL_law 1779 = .ok (.iaload, 1) := by decide +kernel
theorem dL_law_1780 : decode cL_law 1780 = .ok (.aload_n 0, 1) := by decide +kernel
theorem dL_law_1781 : decode cL_law 1781 = .ok (.iload 5, 2) := by decide +kernel
theorem dL_law_1783 : decode cL_law 1783 = .ok (.iconst 2, 1) := by decide +kernel
theorem dL_law_1784 : decode cL_law 1784 = .ok (.iadd, 1) := by decide +kernel
theorem dL_law_1785 : decode cL_law 1785 = .ok (.iaload, 1) := by decide +kernel
theorem dL_law_1786 : decode cL_law 1786 = .ok (.aload_n 0, 1) := by decide +kernel
theorem dL_law_1787 : decode cL_law 1787 = .ok (.iload 5, 2) := by decide +kernel
theorem dL_law_1789 : decode cL_law 1789 = .ok (.iconst 3, 1) := by decide +kernel
theorem dL_law_1790 : decode cL_law 1790 = .ok (.iadd, 1) := by decide +kernel
theorem dL_law_1791 : decode cL_law 1791 = .ok (.iaload, 1) := by decide +kernel
theorem dL_law_1792 : decode cL_law 1792 = .ok (.aload_n 3, 1) := by decide +kernel
theorem dL_law_1793 : decode cL_law 1793 = .ok (.invokestatic 203, 3) := by decide +kernel
theorem dL_law_1796 : decode cL_law 1796 = .ok (.istore 6, 2) := by decide +kernel
theorem dL_law_1798 : decode cL_law 1798 = .ok (.aload_n 2, 1) := by decide +kernel
theorem dL_law_1799 : decode cL_law 1799 = .ok (.aload_n 0, 1) := by decide +kernel
theorem dL_law_1800 : decode cL_law 1800 = .ok (.iload 5, 2) := by decide +kernel
theorem dL_law_1802 : decode cL_law 1802 = .ok (.iconst 1, 1) := by decide +kernel
theorem dL_law_1803 : decode cL_law 1803 = .ok (.iadd, 1) := by decide +kernel
theorem dL_law_1804 : decode cL_law 1804 = .ok (.iaload, 1) := by decide +kernel
theorem dL_law_1805 : decode cL_law 1805 = .ok (.aload_n 0, 1) := by decide +kernel
theorem dL_law_1806 : decode cL_law 1806 = .ok (.iload 5, 2) := by decide +kernel
theorem dL_law_1808 : decode cL_law 1808 = .ok (.iconst 2, 1) := by decide +kernel
theorem dL_law_1809 : decode cL_law 1809 = .ok (.iadd, 1) := by decide +kernel
theorem dL_law_1810 : decode cL_law 1810 = .ok (.iaload, 1) := by decide +kernel
theorem dL_law_1811 : decode cL_law 1811 = .ok (.aload_n 0, 1) := by decide +kernel
theorem dL_law_1812 : decode cL_law 1812 = .ok (.iload 5, 2) := by decide +kernel
theorem dL_law_1814 : decode cL_law 1814 = .ok (.iconst 3, 1) := by decide +kernel
theorem dL_law_1815 : decode cL_law 1815 = .ok (.iadd, 1) := by decide +kernel
theorem dL_law_1816 : decode cL_law 1816 = .ok (.iaload, 1) := by decide +kernel
theorem dL_law_1817 : decode cL_law 1817 = .ok (.invokevirtual 205, 3) := by decide +kernel
theorem dL_law_1820 : decode cL_law 1820 = .ok (.istore 7, 2) := by decide +kernel
theorem dL_law_1822 : decode cL_law 1822 = .ok (.aload_n 2, 1) := by decide +kernel
theorem dL_law_1823 : decode cL_law 1823 = .ok (.invokevirtual 120, 3) := by decide +kernel
theorem dL_law_1826 : decode cL_law 1826 = .ok (.iload 6, 2) := by decide +kernel
theorem dL_law_1828 : decode cL_law 1828 = .ok (.if_icmp .eq 5, 3) := by decide +kernel
theorem dL_law_1831 : decode cL_law 1831 = .ok (.iconst 0, 1) := by decide +kernel
theorem dL_law_1832 : decode cL_law 1832 = .ok (.ireturn, 1) := by decide +kernel
theorem dL_law_1833 : decode cL_law 1833 = .ok (.iload 6, 2) := by decide +kernel
theorem dL_law_1835 : decode cL_law 1835 = .ok (.ifCond .ne 15, 3) := by decide +kernel
theorem dL_law_1838 : decode cL_law 1838 = .ok (.aload_n 3, 1) := by decide +kernel
theorem dL_law_1839 : decode cL_law 1839 = .ok (.iconst 0, 1) := by decide +kernel
theorem dL_law_1840 : decode cL_law 1840 = .ok (.laload, 1) := by decide +kernel
theorem dL_law_1841 : decode cL_law 1841 = .ok (.iload 7, 2) := by decide +kernel
theorem dL_law_1843 : decode cL_law 1843 = .ok (.i2l, 1) := by decide +kernel
theorem dL_law_1844 : decode cL_law 1844 = .ok (.lcmp, 1) := by decide +kernel
theorem dL_law_1845 : decode cL_law 1845 = .ok (.ifCond .eq 5, 3) := by decide +kernel
theorem dL_law_1848 : decode cL_law 1848 = .ok (.iconst 0, 1) := by decide +kernel
theorem dL_law_1849 : decode cL_law 1849 = .ok (.ireturn, 1) := by decide +kernel
theorem dL_law_1850 : decode cL_law 1850 = .ok (.goto 361, 3) := by decide +kernel
theorem dL_law_1853 : decode cL_law 1853 = .ok (.aload_n 1, 1) := by decide +kernel
theorem dL_law_1854 : decode cL_law 1854 = .ok (.aload_n 0, 1) := by decide +kernel
theorem dL_law_1855 : decode cL_law 1855 = .ok (.iload 5, 2) := by decide +kernel
theorem dL_law_1857 : decode cL_law 1857 = .ok (.iconst 1, 1) := by decide +kernel
theorem dL_law_1858 : decode cL_law 1858 = .ok (.iadd, 1) := by decide +kernel
theorem dL_law_1859 : decode cL_law 1859 = .ok (.iaload, 1) := by decide +kernel
theorem dL_law_1860 : decode cL_law 1860 = .ok (.aload_n 0, 1) := by decide +kernel
theorem dL_law_1861 : decode cL_law 1861 = .ok (.iload 5, 2) := by decide +kernel
theorem dL_law_1863 : decode cL_law 1863 = .ok (.iconst 2, 1) := by decide +kernel
theorem dL_law_1864 : decode cL_law 1864 = .ok (.iadd, 1) := by decide +kernel
theorem dL_law_1865 : decode cL_law 1865 = .ok (.iaload, 1) := by decide +kernel
theorem dL_law_1866 : decode cL_law 1866 = .ok (.aload_n 3, 1) := by decide +kernel
theorem dL_law_1867 : decode cL_law 1867 = .ok (.invokestatic 206, 3) := by decide +kernel
theorem dL_law_1870 : decode cL_law 1870 = .ok (.istore 6, 2) := by decide +kernel
theorem dL_law_1872 : decode cL_law 1872 = .ok (.aload_n 2, 1) := by decide +kernel
theorem dL_law_1873 : decode cL_law 1873 = .ok (.aload_n 0, 1) := by decide +kernel
theorem dL_law_1874 : decode cL_law 1874 = .ok (.iload 5, 2) := by decide +kernel
theorem dL_law_1876 : decode cL_law 1876 = .ok (.iconst 1, 1) := by decide +kernel
theorem dL_law_1877 : decode cL_law 1877 = .ok (.iadd, 1) := by decide +kernel
theorem dL_law_1878 : decode cL_law 1878 = .ok (.iaload, 1) := by decide +kernel
theorem dL_law_1879 : decode cL_law 1879 = .ok (.aload_n 0, 1) := by decide +kernel
theorem dL_law_1880 : decode cL_law 1880 = .ok (.iload 5, 2) := by decide +kernel
theorem dL_law_1882 : decode cL_law 1882 = .ok (.iconst 2, 1) := by decide +kernel
theorem dL_law_1883 : decode cL_law 1883 = .ok (.iadd, 1) := by decide +kernel
theorem dL_law_1884 : decode cL_law 1884 = .ok (.iaload, 1) := by decide +kernel
theorem dL_law_1885 : decode cL_law 1885 = .ok (.invokevirtual 208, 3) := by decide +kernel
theorem dL_law_1888 : decode cL_law 1888 = .ok (.istore 7, 2) := by decide +kernel
theorem dL_law_1890 : decode cL_law 1890 = .ok (.aload_n 2, 1) := by decide +kernel
theorem dL_law_1891 : decode cL_law 1891 = .ok (.invokevirtual 120, 3) := by decide +kernel
theorem dL_law_1894 : decode cL_law 1894 = .ok (.iload 6, 2) := by decide +kernel
theorem dL_law_1896 : decode cL_law 1896 = .ok (.if_icmp .eq 5, 3) := by decide +kernel
theorem dL_law_1899 : decode cL_law 1899 = .ok (.iconst 0, 1) := by decide +kernel
theorem dL_law_1900 : decode cL_law 1900 = .ok (.ireturn, 1) := by decide +kernel
theorem dL_law_1901 : decode cL_law 1901 = .ok (.iload 6, 2) := by decide +kernel
theorem dL_law_1903 : decode cL_law 1903 = .ok (.ifCond .ne 15, 3) := by decide +kernel
theorem dL_law_1906 : decode cL_law 1906 = .ok (.aload_n 3, 1) := by decide +kernel
theorem dL_law_1907 : decode cL_law 1907 = .ok (.iconst 0, 1) := by decide +kernel
theorem dL_law_1908 : decode cL_law 1908 = .ok (.laload, 1) := by decide +kernel
theorem dL_law_1909 : decode cL_law 1909 = .ok (.iload 7, 2) := by decide +kernel
theorem dL_law_1911 : decode cL_law 1911 = .ok (.i2l, 1) := by decide +kernel
theorem dL_law_1912 : decode cL_law 1912 = .ok (.lcmp, 1) := by decide +kernel
theorem dL_law_1913 : decode cL_law 1913 = .ok (.ifCond .eq 5, 3) := by decide +kernel
theorem dL_law_1916 : decode cL_law 1916 = .ok (.iconst 0, 1) := by decide +kernel
theorem dL_law_1917 : decode cL_law 1917 = .ok (.ireturn, 1) := by decide +kernel
theorem dL_law_1918 : decode cL_law 1918 = .ok (.goto 293, 3) := by decide +kernel
theorem dL_law_1921 : decode cL_law 1921 = .ok (.aload_n 1, 1) := by decide +kernel
theorem dL_law_1922 : decode cL_law 1922 = .ok (.aload_n 0, 1) := by decide +kernel
theorem dL_law_1923 : decode cL_law 1923 = .ok (.iload 5, 2) := by decide +kernel
theorem dL_law_1925 : decode cL_law 1925 = .ok (.iconst 1, 1) := by decide +kernel
theorem dL_law_1926 : decode cL_law 1926 = .ok (.iadd, 1) := by decide +kernel
theorem dL_law_1927 : decode cL_law 1927 = .ok (.iaload, 1) := by decide +kernel
theorem dL_law_1928 : decode cL_law 1928 = .ok (.aload_n 3, 1) := by decide +kernel
theorem dL_law_1929 : decode cL_law 1929 = .ok (.invokestatic 209, 3) := by decide +kernel
theorem dL_law_1932 : decode cL_law 1932 = .ok (.istore 6, 2) := by decide +kernel
theorem dL_law_1934 : decode cL_law 1934 = .ok (.aload_n 2, 1) := by decide +kernel
theorem dL_law_1935 : decode cL_law 1935 = .ok (.aload_n 0, 1) := by decide +kernel
theorem dL_law_1936 : decode cL_law 1936 = .ok (.iload 5, 2) := by decide +kernel
theorem dL_law_1938 : decode cL_law 1938 = .ok (.iconst 1, 1) := by decide +kernel
theorem dL_law_1939 : decode cL_law 1939 = .ok (.iadd, 1) := by decide +kernel
theorem dL_law_1940 : decode cL_law 1940 = .ok (.iaload, 1) := by decide +kernel
theorem dL_law_1941 : decode cL_law 1941 = .ok (.invokevirtual 211, 3) := by decide +kernel
theorem dL_law_1944 : decode cL_law 1944 = .ok (.istore 7, 2) := by decide +kernel
theorem dL_law_1946 : decode cL_law 1946 = .ok (.aload_n 2, 1) := by decide +kernel
theorem dL_law_1947 : decode cL_law 1947 = .ok (.invokevirtual 120, 3) := by decide +kernel
theorem dL_law_1950 : decode cL_law 1950 = .ok (.iload 6, 2) := by decide +kernel
theorem dL_law_1952 : decode cL_law 1952 = .ok (.if_icmp .eq 5, 3) := by decide +kernel
theorem dL_law_1955 : decode cL_law 1955 = .ok (.iconst 0, 1) := by decide +kernel
theorem dL_law_1956 : decode cL_law 1956 = .ok (.ireturn, 1) := by decide +kernel
theorem dL_law_1957 : decode cL_law 1957 = .ok (.iload 6, 2) := by decide +kernel
theorem dL_law_1959 : decode cL_law 1959 = .ok (.ifCond .ne 15, 3) := by decide +kernel
theorem dL_law_1962 : decode cL_law 1962 = .ok (.aload_n 3, 1) := by decide +kernel
theorem dL_law_1963 : decode cL_law 1963 = .ok (.iconst 0, 1) := by decide +kernel
theorem dL_law_1964 : decode cL_law 1964 = .ok (.laload, 1) := by decide +kernel
theorem dL_law_1965 : decode cL_law 1965 = .ok (.iload 7, 2) := by decide +kernel
theorem dL_law_1967 : decode cL_law 1967 = .ok (.i2l, 1) := by decide +kernel
theorem dL_law_1968 : decode cL_law 1968 = .ok (.lcmp, 1) := by decide +kernel
theorem dL_law_1969 : decode cL_law 1969 = .ok (.ifCond .eq 5, 3) := by decide +kernel
theorem dL_law_1972 : decode cL_law 1972 = .ok (.iconst 0, 1) := by decide +kernel
theorem dL_law_1973 : decode cL_law 1973 = .ok (.ireturn, 1) := by decide +kernel
theorem dL_law_1974 : decode cL_law 1974 = .ok (.goto 237, 3) := by decide +kernel
theorem dL_law_1977 : decode cL_law 1977 = .ok (.aload_n 1, 1) := by decide +kernel
theorem dL_law_1978 : decode cL_law 1978 = .ok (.aload_n 0, 1) := by decide +kernel
theorem dL_law_1979 : decode cL_law 1979 = .ok (.iload 5, 2) := by decide +kernel
theorem dL_law_1981 : decode cL_law 1981 = .ok (.iconst 1, 1) := by decide +kernel
theorem dL_law_1982 : decode cL_law 1982 = .ok (.iadd, 1) := by decide +kernel
theorem dL_law_1983 : decode cL_law 1983 = .ok (.iaload, 1) := by decide +kernel
theorem dL_law_1984 : decode cL_law 1984 = .ok (.aload_n 0, 1) := by decide +kernel
theorem dL_law_1985 : decode cL_law 1985 = .ok (.iload 5, 2) := by decide +kernel
theorem dL_law_1987 : decode cL_law 1987 = .ok (.iconst 2, 1) := by decide +kernel
theorem dL_law_1988 : decode cL_law 1988 = .ok (.iadd, 1) := by decide +kernel
theorem dL_law_1989 : decode cL_law 1989 = .ok (.iaload, 1) := by decide +kernel
theorem dL_law_1990 : decode cL_law 1990 = .ok (.aload_n 3, 1) := by decide +kernel
theorem dL_law_1991 : decode cL_law 1991 = .ok (.invokestatic 212, 3) := by decide +kernel
theorem dL_law_1994 : decode cL_law 1994 = .ok (.istore 6, 2) := by decide +kernel
theorem dL_law_1996 : decode cL_law 1996 = .ok (.aload_n 2, 1) := by decide +kernel
theorem dL_law_1997 : decode cL_law 1997 = .ok (.aload_n 0, 1) := by decide +kernel
theorem dL_law_1998 : decode cL_law 1998 = .ok (.iload 5, 2) := by decide +kernel
theorem dL_law_2000 : decode cL_law 2000 = .ok (.iconst 1, 1) := by decide +kernel
theorem dL_law_2001 : decode cL_law 2001 = .ok (.iadd, 1) := by decide +kernel
theorem dL_law_2002 : decode cL_law 2002 = .ok (.iaload, 1) := by decide +kernel
theorem dL_law_2003 : decode cL_law 2003 = .ok (.aload_n 0, 1) := by decide +kernel
theorem dL_law_2004 : decode cL_law 2004 = .ok (.iload 5, 2) := by decide +kernel
theorem dL_law_2006 : decode cL_law 2006 = .ok (.iconst 2, 1) := by decide +kernel
theorem dL_law_2007 : decode cL_law 2007 = .ok (.iadd, 1) := by decide +kernel
theorem dL_law_2008 : decode cL_law 2008 = .ok (.iaload, 1) := by decide +kernel
theorem dL_law_2009 : decode cL_law 2009 = .ok (.invokevirtual 214, 3) := by decide +kernel
theorem dL_law_2012 : decode cL_law 2012 = .ok (.istore 7, 2) := by decide +kernel
theorem dL_law_2014 : decode cL_law 2014 = .ok (.aload_n 2, 1) := by decide +kernel
theorem dL_law_2015 : decode cL_law 2015 = .ok (.invokevirtual 120, 3) := by decide +kernel
theorem dL_law_2018 : decode cL_law 2018 = .ok (.iload 6, 2) := by decide +kernel
theorem dL_law_2020 : decode cL_law 2020 = .ok (.if_icmp .eq 5, 3) := by decide +kernel
theorem dL_law_2023 : decode cL_law 2023 = .ok (.iconst 0, 1) := by decide +kernel
theorem dL_law_2024 : decode cL_law 2024 = .ok (.ireturn, 1) := by decide +kernel
theorem dL_law_2025 : decode cL_law 2025 = .ok (.iload 6, 2) := by decide +kernel
theorem dL_law_2027 : decode cL_law 2027 = .ok (.ifCond .ne 15, 3) := by decide +kernel
theorem dL_law_2030 : decode cL_law 2030 = .ok (.aload_n 3, 1) := by decide +kernel
theorem dL_law_2031 : decode cL_law 2031 = .ok (.iconst 0, 1) := by decide +kernel
theorem dL_law_2032 : decode cL_law 2032 = .ok (.laload, 1) := by decide +kernel
theorem dL_law_2033 : decode cL_law 2033 = .ok (.iload 7, 2) := by decide +kernel
theorem dL_law_2035 : decode cL_law 2035 = .ok (.i2l, 1) := by decide +kernel
theorem dL_law_2036 : decode cL_law 2036 = .ok (.lcmp, 1) := by decide +kernel
theorem dL_law_2037 : decode cL_law 2037 = .ok (.ifCond .eq 5, 3) := by decide +kernel
theorem dL_law_2040 : decode cL_law 2040 = .ok (.iconst 0, 1) := by decide +kernel
theorem dL_law_2041 : decode cL_law 2041 = .ok (.ireturn, 1) := by decide +kernel
theorem dL_law_2042 : decode cL_law 2042 = .ok (.goto 169, 3) := by decide +kernel
theorem dL_law_2045 : decode cL_law 2045 = .ok (.aload_n 1, 1) := by decide +kernel
theorem dL_law_2046 : decode cL_law 2046 = .ok (.aload_n 0, 1) := by decide +kernel
theorem dL_law_2047 : decode cL_law 2047 = .ok (.iload 5, 2) := by decide +kernel
theorem dL_law_2049 : decode cL_law 2049 = .ok (.iconst 1, 1) := by decide +kernel
theorem dL_law_2050 : decode cL_law 2050 = .ok (.iadd, 1) := by decide +kernel
theorem dL_law_2051 : decode cL_law 2051 = .ok (.iaload, 1) := by decide +kernel
theorem dL_law_2052 : decode cL_law 2052 = .ok (.aload_n 0, 1) := by decide +kernel
theorem dL_law_2053 : decode cL_law 2053 = .ok (.iload 5, 2) := by decide +kernel
theorem dL_law_2055 : decode cL_law 2055 = .ok (.iconst 2, 1) := by decide +kernel
theorem dL_law_2056 : decode cL_law 2056 = .ok (.iadd, 1) := by decide +kernel
theorem dL_law_2057 : decode cL_law 2057 = .ok (.iaload, 1) := by decide +kernel
theorem dL_law_2058 : decode cL_law 2058 = .ok (.aload_n 3, 1) := by decide +kernel
theorem dL_law_2059 : decode cL_law 2059 = .ok (.invokestatic 215, 3) := by decide +kernel
theorem dL_law_2062 : decode cL_law 2062 = .ok (.istore 6, 2) := by decide +kernel
theorem dL_law_2064 : decode cL_law 2064 = .ok (.aload_n 2, 1) := by decide +kernel
theorem dL_law_2065 : decode cL_law 2065 = .ok (.aload_n 0, 1) := by decide +kernel
theorem dL_law_2066 : decode cL_law 2066 = .ok (.iload 5, 2) := by decide +kernel
theorem dL_law_2068 : decode cL_law 2068 = .ok (.iconst 1, 1) := by decide +kernel
theorem dL_law_2069 : decode cL_law 2069 = .ok (.iadd, 1) := by decide +kernel
theorem dL_law_2070 : decode cL_law 2070 = .ok (.iaload, 1) := by decide +kernel
theorem dL_law_2071 : decode cL_law 2071 = .ok (.aload_n 0, 1) := by decide +kernel
theorem dL_law_2072 : decode cL_law 2072 = .ok (.iload 5, 2) := by decide +kernel
theorem dL_law_2074 : decode cL_law 2074 = .ok (.iconst 2, 1) := by decide +kernel
theorem dL_law_2075 : decode cL_law 2075 = .ok (.iadd, 1) := by decide +kernel
theorem dL_law_2076 : decode cL_law 2076 = .ok (.iaload, 1) := by decide +kernel
theorem dL_law_2077 : decode cL_law 2077 = .ok (.invokevirtual 217, 3) := by decide +kernel
theorem dL_law_2080 : decode cL_law 2080 = .ok (.istore 7, 2) := by decide +kernel
theorem dL_law_2082 : decode cL_law 2082 = .ok (.aload_n 2, 1) := by decide +kernel
theorem dL_law_2083 : decode cL_law 2083 = .ok (.invokevirtual 120, 3) := by decide +kernel
theorem dL_law_2086 : decode cL_law 2086 = .ok (.iload 6, 2) := by decide +kernel
theorem dL_law_2088 : decode cL_law 2088 = .ok (.if_icmp .eq 5, 3) := by decide +kernel
theorem dL_law_2091 : decode cL_law 2091 = .ok (.iconst 0, 1) := by decide +kernel
theorem dL_law_2092 : decode cL_law 2092 = .ok (.ireturn, 1) := by decide +kernel
theorem dL_law_2093 : decode cL_law 2093 = .ok (.iload 6, 2) := by decide +kernel
theorem dL_law_2095 : decode cL_law 2095 = .ok (.ifCond .ne 22, 3) := by decide +kernel
theorem dL_law_2098 : decode cL_law 2098 = .ok (.aload_n 3, 1) := by decide +kernel
theorem dL_law_2099 : decode cL_law 2099 = .ok (.iconst 0, 1) := by decide +kernel
theorem dL_law_2100 : decode cL_law 2100 = .ok (.laload, 1) := by decide +kernel
theorem dL_law_2101 : decode cL_law 2101 = .ok (.iload 7, 2) := by decide +kernel
theorem dL_law_2103 : decode cL_law 2103 = .ok (.ifCond .eq 7, 3) := by decide +kernel
theorem dL_law_2106 : decode cL_law 2106 = .ok (.lconst 1, 1) := by decide +kernel
theorem dL_law_2107 : decode cL_law 2107 = .ok (.goto 4, 3) := by decide +kernel
theorem dL_law_2110 : decode cL_law 2110 = .ok (.lconst 0, 1) := by decide +kernel
theorem dL_law_2111 : decode cL_law 2111 = .ok (.lcmp, 1) := by decide +kernel
theorem dL_law_2112 : decode cL_law 2112 = .ok (.ifCond .eq 5, 3) := by decide +kernel
theorem dL_law_2115 : decode cL_law 2115 = .ok (.iconst 0, 1) := by decide +kernel
theorem dL_law_2116 : decode cL_law 2116 = .ok (.ireturn, 1) := by decide +kernel
theorem dL_law_2117 : decode cL_law 2117 = .ok (.goto 94, 3) := by decide +kernel
theorem dL_law_2120 : decode cL_law 2120 = .ok (.aload_n 1, 1) := by decide +kernel
theorem dL_law_2121 : decode cL_law 2121 = .ok (.aload_n 0, 1) := by decide +kernel
theorem dL_law_2122 : decode cL_law 2122 = .ok (.iload 5, 2) := by decide +kernel
theorem dL_law_2124 : decode cL_law 2124 = .ok (.iconst 1, 1) := by decide +kernel
theorem dL_law_2125 : decode cL_law 2125 = .ok (.iadd, 1) := by decide +kernel
theorem dL_law_2126 : decode cL_law 2126 = .ok (.iaload, 1) := by decide +kernel
theorem dL_law_2127 : decode cL_law 2127 = .ok (.aload 4, 2) := by decide +kernel
theorem dL_law_2129 : decode cL_law 2129 = .ok (.invokestatic 218, 3) := by decide +kernel
theorem dL_law_2132 : decode cL_law 2132 = .ok (.istore 6, 2) := by decide +kernel
theorem dL_law_2134 : decode cL_law 2134 = .ok (.aload_n 2, 1) := by decide +kernel
theorem dL_law_2135 : decode cL_law 2135 = .ok (.aload_n 0, 1) := by decide +kernel
theorem dL_law_2136 : decode cL_law 2136 = .ok (.iload 5, 2) := by decide +kernel
theorem dL_law_2138 : decode cL_law 2138 = .ok (.iconst 1, 1) := by decide +kernel
theorem dL_law_2139 : decode cL_law 2139 = .ok (.iadd, 1) := by decide +kernel
theorem dL_law_2140 : decode cL_law 2140 = .ok (.iaload, 1) := by decide +kernel
theorem dL_law_2141 : decode cL_law 2141 = .ok (.invokevirtual 221, 3) := by decide +kernel
theorem dL_law_2144 : decode cL_law 2144 = .ok (.dstore 7, 2) := by decide +kernel
theorem dL_law_2146 : decode cL_law 2146 = .ok (.aload_n 2, 1) := by decide +kernel
theorem dL_law_2147 : decode cL_law 2147 = .ok (.invokevirtual 120, 3) := by decide +kernel
theorem dL_law_2150 : decode cL_law 2150 = .ok (.iload 6, 2) := by decide +kernel
theorem dL_law_2152 : decode cL_law 2152 = .ok (.if_icmp .eq 5, 3) := by decide +kernel
theorem dL_law_2155 : decode cL_law 2155 = .ok (.iconst 0, 1) := by decide +kernel
theorem dL_law_2156 : decode cL_law 2156 = .ok (.ireturn, 1) := by decide +kernel
theorem dL_law_2157 : decode cL_law 2157 = .ok (.iload 6, 2) := by decide +kernel
theorem dL_law_2159 : decode cL_law 2159 = .ok (.ifCond .ne 35, 3) := by decide +kernel
theorem dL_law_2162 : decode cL_law 2162 = .ok (.aload 4, 2) := by decide +kernel
theorem dL_law_2164 : decode cL_law 2164 = .ok (.iconst 0, 1) := by decide +kernel
theorem dL_law_2165 : decode cL_law 2165 = .ok (.daload, 1) := by decide +kernel
theorem dL_law_2166 : decode cL_law 2166 = .ok (.dload 7, 2) := by decide +kernel
theorem dL_law_2168 : decode cL_law 2168 = .ok (.dcmp .l, 1) := by decide +kernel
theorem dL_law_2169 : decode cL_law 2169 = .ok (.ifCond .eq 25, 3) := by decide +kernel
theorem dL_law_2172 : decode cL_law 2172 = .ok (.aload 4, 2) := by decide +kernel
theorem dL_law_2174 : decode cL_law 2174 = .ok (.iconst 0, 1) := by decide +kernel
theorem dL_law_2175 : decode cL_law 2175 = .ok (.daload, 1) := by decide +kernel
theorem dL_law_2176 : decode cL_law 2176 = .ok (.aload 4, 2) := by decide +kernel
theorem dL_law_2178 : decode cL_law 2178 = .ok (.iconst 0, 1) := by decide +kernel
theorem dL_law_2179 : decode cL_law 2179 = .ok (.daload, 1) := by decide +kernel
theorem dL_law_2180 : decode cL_law 2180 = .ok (.dcmp .l, 1) := by decide +kernel
theorem dL_law_2181 : decode cL_law 2181 = .ok (.ifCond .eq 11, 3) := by decide +kernel
theorem dL_law_2184 : decode cL_law 2184 = .ok (.dload 7, 2) := by decide +kernel
theorem dL_law_2186 : decode cL_law 2186 = .ok (.dload 7, 2) := by decide +kernel
theorem dL_law_2188 : decode cL_law 2188 = .ok (.dcmp .l, 1) := by decide +kernel
theorem dL_law_2189 : decode cL_law 2189 = .ok (.ifCond .ne 5, 3) := by decide +kernel
theorem dL_law_2192 : decode cL_law 2192 = .ok (.iconst 0, 1) := by decide +kernel
theorem dL_law_2193 : decode cL_law 2193 = .ok (.ireturn, 1) := by decide +kernel
theorem dL_law_2194 : decode cL_law 2194 = .ok (.goto 17, 3) := by decide +kernel
theorem dL_law_2197 : decode cL_law 2197 = .ok (.aload_n 1, 1) := by decide +kernel
theorem dL_law_2198 : decode cL_law 2198 = .ok (.invokevirtual 222, 3) := by decide +kernel
theorem dL_law_2201 : decode cL_law 2201 = .ok (.aload_n 2, 1) := by decide +kernel
theorem dL_law_2202 : decode cL_law 2202 = .ok (.invokevirtual 226, 3) := by decide +kernel
theorem dL_law_2205 : decode cL_law 2205 = .ok (.lcmp, 1) := by decide +kernel
theorem dL_law_2206 : decode cL_law 2206 = .ok (.ifCond .eq 5, 3) := by decide +kernel
theorem dL_law_2209 : decode cL_law 2209 = .ok (.iconst 0, 1) := by decide +kernel
theorem dL_law_2210 : decode cL_law 2210 = .ok (.ireturn, 1) := by decide +kernel
theorem dL_law_2211 : decode cL_law 2211 = .ok (.iinc 5 4, 3) := by decide +kernel
theorem dL_law_2214 : decode cL_law 2214 = .ok (.goto (-2186), 3) := by decide +kernel
theorem dL_law_2217 : decode cL_law 2217 = .ok (.iconst 1, 1) := by decide +kernel
theorem dL_law_2218 : decode cL_law 2218 = .ok (.ireturn, 1) := by decide +kernel
