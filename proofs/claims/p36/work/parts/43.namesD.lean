theorem dJ9_max_7cf53_0 : decode cJ9_max_7cf53 0 = .ok (.iload_n 0, 1) := by decide +kernel
theorem dJ9_max_7cf53_1 : decode cJ9_max_7cf53 1 = .ok (.iload_n 1, 1) := by decide +kernel
theorem dJ9_max_7cf53_2 : decode cJ9_max_7cf53 2 = .ok (.if_icmp .lt 7, 3) := by decide +kernel
theorem dJ9_max_7cf53_5 : decode cJ9_max_7cf53 5 = .ok (.iload_n 0, 1) := by decide +kernel
theorem dJ9_max_7cf53_6 : decode cJ9_max_7cf53 6 = .ok (.goto 4, 3) := by decide +kernel
theorem dJ9_max_7cf53_9 : decode cJ9_max_7cf53 9 = .ok (.iload_n 1, 1) := by decide +kernel
theorem dJ9_max_7cf53_10 : decode cJ9_max_7cf53 10 = .ok (.ireturn, 1) := by decide +kernel
theorem dJ9_min_7cf53_0 : decode cJ9_min_7cf53 0 = .ok (.iload_n 0, 1) := by decide +kernel
theorem dJ9_min_7cf53_1 : decode cJ9_min_7cf53 1 = .ok (.iload_n 1, 1) := by decide +kernel
theorem dJ9_min_7cf53_2 : decode cJ9_min_7cf53 2 = .ok (.if_icmp .gt 7, 3) := by decide +kernel
theorem dJ9_min_7cf53_5 : decode cJ9_min_7cf53 5 = .ok (.iload_n 0, 1) := by decide +kernel
theorem dJ9_min_7cf53_6 : decode cJ9_min_7cf53 6 = .ok (.goto 4, 3) := by decide +kernel
theorem dJ9_min_7cf53_9 : decode cJ9_min_7cf53 9 = .ok (.iload_n 1, 1) := by decide +kernel
theorem dJ9_min_7cf53_10 : decode cJ9_min_7cf53 10 = .ok (.ireturn, 1) := by decide +kernel
theorem dL_below_0 : decode cL_below 0 = .ok (.iload_n 0, 1) := by decide +kernel
theorem dL_below_1 : decode cL_below 1 = .ok (.ldc 7, 2) := by decide +kernel
theorem dL_below_3 : decode cL_below 3 = .ok (.iand, 1) := by decide +kernel
theorem dL_below_4 : decode cL_below 4 = .ok (.iload_n 1, 1) := by decide +kernel
theorem dL_below_5 : decode cL_below 5 = .ok (.irem, 1) := by decide +kernel
theorem dL_below_6 : decode cL_below 6 = .ok (.ireturn, 1) := by decide +kernel
theorem dL_cell_0 : decode cL_cell 0 = .ok (.iload_n 1, 1) := by decide +kernel
theorem dL_cell_1 : decode cL_cell 1 = .ok (.aload_n 0, 1) := by decide +kernel
theorem dL_cell_2 : decode cL_cell 2 = .ok (.arraylength, 1) := by decide +kernel
theorem dL_cell_3 : decode cL_cell 3 = .ok (.if_icmp .ge 9, 3) := by decide +kernel
theorem dL_cell_6 : decode cL_cell 6 = .ok (.aload_n 0, 1) := by decide +kernel
theorem dL_cell_7 : decode cL_cell 7 = .ok (.iload_n 1, 1) := by decide +kernel
theorem dL_cell_8 : decode cL_cell 8 = .ok (.iaload, 1) := by decide +kernel
theorem dL_cell_9 : decode cL_cell 9 = .ok (.goto 9, 3) := by decide +kernel
theorem dL_cell_12 : decode cL_cell 12 = .ok (.ldc 8, 2) := by decide +kernel
theorem dL_cell_14 : decode cL_cell 14 = .ok (.iload_n 1, 1) := by decide +kernel
theorem dL_cell_15 : decode cL_cell 15 = .ok (.iconst 3, 1) := by decide +kernel
theorem dL_cell_16 : decode cL_cell 16 = .ok (.iadd, 1) := by decide +kernel
theorem dL_cell_17 : decode cL_cell 17 = .ok (.imul, 1) := by decide +kernel
theorem dL_cell_18 : decode cL_cell 18 = .ok (.ireturn, 1) := by decide +kernel
set_option maxRecDepth 20000 in
theorem ggL_act_L_below : GoodIn wsL_act wsL_below := goodIn_r _ [8, 9] (by decide +kernel) (by decide +kernel)
set_option maxRecDepth 20000 in
theorem gL_act_L_below : GoodIn wsL_act (va_wsS RL 9 yL_below wsL_below) := goodIn_app (goodIn_of _ (by decide +kernel)) ggL_act_L_below
set_option maxRecDepth 20000 in
theorem ggL_act_X4_count : GoodIn wsL_act wsX4_count := goodIn_r _ [13, 14, 15, 16, 11, 12, 254, 255, 256, 257] (by decide +kernel) (by decide +kernel)
set_option maxRecDepth 20000 in
theorem gL_act_X4_count : GoodIn wsL_act (va_wsS RL 21 yX4_count wsX4_count) := goodIn_app (goodIn_of _ (by decide +kernel)) ggL_act_X4_count
set_option maxRecDepth 20000 in
theorem ggL_act_X4_order : GoodIn wsL_act wsX4_order := goodIn_r _ [19, 14, 15, 20, 18, 12, 254, 255, 256, 257] (by decide +kernel) (by decide +kernel)
set_option maxRecDepth 20000 in
theorem gL_act_X4_order : GoodIn wsL_act (va_wsS RL 27 yX4_order wsX4_order) := goodIn_app (goodIn_of _ (by decide +kernel)) ggL_act_X4_order
set_option maxRecDepth 20000 in
theorem ggL_act_X4_all : GoodIn wsL_act wsX4_all := goodIn_r _ [24, 25, 16, 11, 12, 13, 14, 15, 252, 253, 254, 255, 256, 257] (by decide +kernel) (by decide +kernel)
set_option maxRecDepth 20000 in
theorem gL_act_X4_all : GoodIn wsL_act (wsV RL 35 RX4 yX4_all wsX4_all) := goodIn_app (goodIn_of _ (by decide +kernel)) ggL_act_X4_all
set_option maxRecDepth 20000 in
theorem ggL_act_X4_has : GoodIn wsL_act wsX4_has := goodIn_r _ [28, 29, 30, 31, 12, 32, 14, 15, 33, 254, 255, 256, 257] (by decide +kernel) (by decide +kernel)
set_option maxRecDepth 20000 in
theorem gL_act_X4_has : GoodIn wsL_act (va_wsS RL 39 yX4_has wsX4_has) := goodIn_app (goodIn_of _ (by decide +kernel)) ggL_act_X4_has
set_option maxRecDepth 20000 in
theorem ggL_act_X4_plant : GoodIn wsL_act wsX4_plant := goodIn_r _ [37, 25, 33, 38, 39, 29, 14, 15, 30, 31, 12, 32, 40, 41, 42, 43, 44, 45, 46, 47, 48, 49, 50, 51, 52, 53, 54, 55, 252, 253, 254, 255, 256, 257] (by decide +kernel) (by decide +kernel)
set_option maxRecDepth 20000 in
theorem gL_act_X4_plant : GoodIn wsL_act (wsV RL 43 RX4 yX4_plant wsX4_plant) := goodIn_app (goodIn_of _ (by decide +kernel)) ggL_act_X4_plant
theorem gcL_act_X2_plant_m0 : ∀ w ∈ (vx_atS RX2 36 "java/lang/IllegalStateException" ["java/lang/RuntimeException", "java/lang/Exception"]).filter goodWord, w ∈ wsL_act := fun _ h => (List.mem_cons_of_mem _ (List.mem_append_left _ (List.mem_append_left _ (List.mem_append_right _ h))))
theorem gcL_act_X2_plant_m1 : ∀ w ∈ (vx_atS RX2 129 "java/lang/IndexOutOfBoundsException" ["java/lang/RuntimeException", "java/lang/Exception"]).filter goodWord, w ∈ wsL_act := fun _ h => (List.mem_cons_of_mem _ (List.mem_append_left _ (List.mem_append_right _ h)))
theorem gcL_act_X2_plant_m2 : ∀ w ∈ (vx_atS RX2 212 "java/lang/IllegalArgumentException" ["java/lang/RuntimeException", "java/lang/Exception"]).filter goodWord, w ∈ wsL_act := fun _ h => (List.mem_cons_of_mem _ (List.mem_append_right _ h))
set_option maxRecDepth 20000 in
theorem gcL_act_X2_plant_h : GoodIn wsL_act ([.code yX2_plant cX2_plant 5 (some .int)]) := goodIn_r _ [60] (by decide +kernel) (by decide +kernel)
set_option maxRecDepth 20000 in
theorem gcL_act_X2_plant_r1 : GoodIn wsL_act (wsX2_plant_r1) := goodIn_r _ [61, 62, 63, 64, 65, 66, 67, 68, 59, 69, 70, 71, 72, 73, 74, 75, 76, 77, 78, 79, 80, 81, 82, 83] (by decide +kernel) (by decide +kernel)
set_option maxRecDepth 20000 in
theorem gcL_act_X2_plant_r2 : GoodIn wsL_act (wsX2_plant_r2) := goodIn_r _ [84, 85, 86, 87, 88, 89, 90, 91, 92, 93, 94, 95, 96, 97, 98, 99, 100, 101, 102, 103, 104, 105, 106, 107] (by decide +kernel) (by decide +kernel)
set_option maxRecDepth 20000 in
theorem gcL_act_X2_plant_r3 : GoodIn wsL_act (wsX2_plant_r3) := goodIn_r _ [108, 109, 110, 111, 112, 113, 114, 115, 116, 117, 118, 119, 120, 121, 122, 123, 124, 44, 45, 125, 126, 127, 128, 129] (by decide +kernel) (by decide +kernel)
set_option maxRecDepth 20000 in
theorem gcL_act_X2_plant_r4 : GoodIn wsL_act (wsX2_plant_r4) := goodIn_r _ [130, 131, 132, 133, 134, 135, 136, 137, 138, 139, 140, 141, 142, 143, 144, 145, 146, 147, 148, 149, 150, 151, 152, 153] (by decide +kernel) (by decide +kernel)
set_option maxRecDepth 20000 in
theorem gcL_act_X2_plant_r5 : GoodIn wsL_act (wsX2_plant_r5) := goodIn_r _ [154, 155, 156, 157, 158, 159, 160, 161, 162, 163, 164, 165, 166] (by decide +kernel) (by decide +kernel)
set_option maxRecDepth 20000 in
theorem gcL_act_X2_plant_wsX00 : GoodIn wsL_act (wsX00) := goodIn_r _ [258, 259, 260, 261, 262, 263] (by decide +kernel) (by decide +kernel)
set_option maxRecDepth 20000 in
theorem gcL_act_X2_plant_wsX20 : GoodIn wsL_act (wsX20) := goodIn_r _ [264, 265, 266] (by decide +kernel) (by decide +kernel)
set_option maxRecDepth 20000 in
theorem gcL_act_X2_plant_wsX10 : GoodIn wsL_act (wsX10) := goodIn_r _ [267] (by decide +kernel) (by decide +kernel)
theorem ggL_act_X2_plant : GoodIn wsL_act wsX2_plant := goodIn_app (a := [.code yX2_plant cX2_plant 5 (some .int)]) gcL_act_X2_plant_h (goodIn_app (goodIn_app (goodIn_app (goodIn_app (goodIn_app (goodIn_app (goodIn_app gcL_act_X2_plant_r1 (goodIn_app gcL_act_X2_plant_r2 (goodIn_app gcL_act_X2_plant_r3 (goodIn_app gcL_act_X2_plant_r4 gcL_act_X2_plant_r5)))) gcL_act_X2_plant_wsX00) gcL_act_X2_plant_wsX20) gcL_act_X2_plant_wsX10) (goodIn_sub (big := wsL_act) (fun w h => gcL_act_X2_plant_m0 w h) (by decide +kernel))) (goodIn_sub (big := wsL_act) (fun w h => gcL_act_X2_plant_m1 w h) (by decide +kernel))) (goodIn_sub (big := wsL_act) (fun w h => gcL_act_X2_plant_m2 w h) (by decide +kernel)))
set_option maxRecDepth 20000 in
theorem gL_act_X2_plant : GoodIn wsL_act (wsV RL 46 RX2 yX2_plant wsX2_plant) := goodIn_app (goodIn_of _ (by decide +kernel)) ggL_act_X2_plant
set_option maxRecDepth 20000 in
theorem ggL_act_X4_eat : GoodIn wsL_act wsX4_eat := goodIn_r _ [170, 25, 171, 30, 31, 12, 32, 29, 14, 15, 33, 47, 48, 49, 50, 51, 52, 53, 54, 55, 252, 253, 254, 255, 256, 257] (by decide +kernel) (by decide +kernel)
set_option maxRecDepth 20000 in
theorem gL_act_X4_eat : GoodIn wsL_act (wsV RL 49 RX4 yX4_eat wsX4_eat) := goodIn_app (goodIn_of _ (by decide +kernel)) ggL_act_X4_eat
set_option maxRecDepth 20000 in
theorem ggL_act_X2_eat : GoodIn wsL_act wsX2_eat := goodIn_ca (goodIn_ca (goodIn_r _ [175, 176, 66, 67, 68, 59, 69, 70, 71, 72, 177, 178, 179, 61, 62, 107, 108, 109, 85, 110, 111, 112, 113, 114, 115, 87, 116, 117, 118, 65, 119, 120, 101, 96, 143, 144, 145, 146, 147, 148, 149, 150, 151, 134, 152, 153, 154, 155, 106, 156, 157, 158, 159, 160, 161, 162, 163, 164, 165, 136, 137, 138, 166, 140, 141, 142, 258, 259, 260, 261, 262, 263, 264, 265, 266, 267] (by decide +kernel) (by decide +kernel)) (goodIn_sub (fun _ h => List.mem_cons_of_mem _ (List.mem_append_left _ (List.mem_append_right _ h))) (by decide +kernel))) (goodIn_sub (fun _ h => List.mem_cons_of_mem _ (List.mem_append_left _ (List.mem_append_left _ (List.mem_append_right _ h)))) (by decide +kernel))
set_option maxRecDepth 20000 in
theorem gL_act_X2_eat : GoodIn wsL_act (wsV RL 52 RX2 yX2_eat wsX2_eat) := goodIn_app (goodIn_of _ (by decide +kernel)) ggL_act_X2_eat
set_option maxRecDepth 20000 in
theorem ggL_act_X4_pick : GoodIn wsL_act wsX4_pick := goodIn_r _ [183, 25, 14, 15, 171, 47, 48, 49, 12, 50, 30, 31, 32, 29, 33, 51, 52, 53, 54, 55, 184, 185, 186, 187, 188, 189, 190, 252, 253, 254, 255, 256, 257] (by decide +kernel) (by decide +kernel)
set_option maxRecDepth 20000 in
theorem gL_act_X4_pick : GoodIn wsL_act (wsV RL 53 RX4 yX4_pick wsX4_pick) := goodIn_app (goodIn_of _ (by decide +kernel)) ggL_act_X4_pick
set_option maxRecDepth 20000 in
theorem ggL_act_X2_pick : GoodIn wsL_act wsX2_pick := goodIn_ca (goodIn_ca (goodIn_r _ [194, 195, 196, 176, 66, 67, 68, 59, 69, 70, 71, 72, 177, 178, 179, 61, 62, 107, 108, 109, 85, 110, 111, 112, 113, 114, 115, 87, 116, 117, 118, 65, 119, 120, 101, 96, 143, 144, 145, 146, 147, 148, 149, 150, 151, 134, 152, 153, 154, 155, 106, 156, 157, 158, 159, 160, 161, 162, 163, 164, 165, 136, 137, 138, 166, 140, 141, 142, 197, 131, 132, 133, 198, 199, 200, 201, 202, 203, 204, 205, 206, 93, 94, 95, 207, 258, 259, 260, 261, 262, 263, 264, 265, 266, 267] (by decide +kernel) (by decide +kernel)) (goodIn_sub (fun _ h => List.mem_cons_of_mem _ (List.mem_append_left _ (List.mem_append_right _ h))) (by decide +kernel))) (goodIn_sub (fun _ h => List.mem_cons_of_mem _ (List.mem_append_left _ (List.mem_append_left _ (List.mem_append_right _ h)))) (by decide +kernel))
set_option maxRecDepth 20000 in
theorem gL_act_X2_pick : GoodIn wsL_act (wsV RL 56 RX2 yX2_pick wsX2_pick) := goodIn_app (goodIn_of _ (by decide +kernel)) ggL_act_X2_pick
set_option maxRecDepth 20000 in
theorem ggL_act_X4_split : GoodIn wsL_act wsX4_split := goodIn_r _ [211, 25, 15, 212, 27, 12, 28, 29, 30, 31, 32, 14, 33, 47, 48, 49, 50, 51, 52, 53, 54, 55, 16, 11, 13, 252, 253, 254, 255, 256, 257] (by decide +kernel) (by decide +kernel)
set_option maxRecDepth 20000 in
theorem gL_act_X4_split : GoodIn wsL_act (wsV RL 57 RX4 yX4_split wsX4_split) := goodIn_app (goodIn_of _ (by decide +kernel)) ggL_act_X4_split
theorem gcL_act_X2_split_m0 : ∀ w ∈ (vx_atS RX2 36 "java/lang/IllegalStateException" ["java/lang/RuntimeException", "java/lang/Exception"]).filter goodWord, w ∈ wsL_act := fun _ h => (List.mem_cons_of_mem _ (List.mem_append_left _ (List.mem_append_left _ (List.mem_append_right _ h))))
theorem gcL_act_X2_split_m1 : ∀ w ∈ (vx_atS RX2 129 "java/lang/IndexOutOfBoundsException" ["java/lang/RuntimeException", "java/lang/Exception"]).filter goodWord, w ∈ wsL_act := fun _ h => (List.mem_cons_of_mem _ (List.mem_append_left _ (List.mem_append_right _ h)))
theorem gcL_act_X2_split_m2 : ∀ w ∈ (vx_atS RX2 212 "java/lang/IllegalArgumentException" ["java/lang/RuntimeException", "java/lang/Exception"]).filter goodWord, w ∈ wsL_act := fun _ h => (List.mem_cons_of_mem _ (List.mem_append_right _ h))
set_option maxRecDepth 20000 in
theorem gcL_act_X2_split_h : GoodIn wsL_act ([.code yX2_split cX2_split 7 (some .int)]) := goodIn_r _ [216] (by decide +kernel) (by decide +kernel)
set_option maxRecDepth 20000 in
theorem gcL_act_X2_split_r1 : GoodIn wsL_act (wsX2_split_r1) := goodIn_r _ [61, 62, 217, 196, 66, 67, 68, 59, 69, 70, 71, 72, 73, 74, 75, 76, 77, 218, 219, 220, 85, 221, 111, 222] (by decide +kernel) (by decide +kernel)
set_option maxRecDepth 20000 in
theorem gcL_act_X2_split_r2 : GoodIn wsL_act (wsX2_split_r2) := goodIn_r _ [223, 224, 225, 87, 226, 98, 99, 65, 100, 101, 227, 103, 104, 105, 96, 106, 97, 197, 131, 132, 133, 134, 143, 144] (by decide +kernel) (by decide +kernel)
set_option maxRecDepth 20000 in
theorem gcL_act_X2_split_r3 : GoodIn wsL_act (wsX2_split_r3) := goodIn_r _ [145, 146, 147, 148, 149, 150, 151, 152, 153, 154, 155, 156, 157, 158, 159, 160, 161, 162, 163, 164, 165, 136, 137, 138] (by decide +kernel) (by decide +kernel)
set_option maxRecDepth 20000 in
theorem gcL_act_X2_split_r4 : GoodIn wsL_act (wsX2_split_r4) := goodIn_r _ [166, 140, 141, 142, 207, 82, 83, 84, 86, 88, 89, 90, 91, 92, 93, 94, 95, 102] (by decide +kernel) (by decide +kernel)
set_option maxRecDepth 20000 in
theorem gcL_act_X2_split_wsX10 : GoodIn wsL_act (wsX10) := goodIn_r _ [267] (by decide +kernel) (by decide +kernel)
set_option maxRecDepth 20000 in
theorem gcL_act_X2_split_wsX00 : GoodIn wsL_act (wsX00) := goodIn_r _ [258, 259, 260, 261, 262, 263] (by decide +kernel) (by decide +kernel)
set_option maxRecDepth 20000 in
theorem gcL_act_X2_split_wsX20 : GoodIn wsL_act (wsX20) := goodIn_r _ [264, 265, 266] (by decide +kernel) (by decide +kernel)
theorem ggL_act_X2_split : GoodIn wsL_act wsX2_split := goodIn_app (a := [.code yX2_split cX2_split 7 (some .int)]) gcL_act_X2_split_h (goodIn_app (goodIn_app (goodIn_app (goodIn_app (goodIn_app (goodIn_app (goodIn_app gcL_act_X2_split_r1 (goodIn_app gcL_act_X2_split_r2 (goodIn_app gcL_act_X2_split_r3 gcL_act_X2_split_r4))) gcL_act_X2_split_wsX10) gcL_act_X2_split_wsX00) gcL_act_X2_split_wsX20) (goodIn_sub (big := wsL_act) (fun w h => gcL_act_X2_split_m0 w h) (by decide +kernel))) (goodIn_sub (big := wsL_act) (fun w h => gcL_act_X2_split_m1 w h) (by decide +kernel))) (goodIn_sub (big := wsL_act) (fun w h => gcL_act_X2_split_m2 w h) (by decide +kernel)))
set_option maxRecDepth 20000 in
theorem gL_act_X2_split : GoodIn wsL_act (wsV RL 61 RX2 yX2_split wsX2_split) := goodIn_app (goodIn_of _ (by decide +kernel)) ggL_act_X2_split
set_option maxRecDepth 20000 in
theorem ggL_act_X4_fits : GoodIn wsL_act wsX4_fits := goodIn_r _ [231, 25, 188, 189, 12, 190, 15, 29, 232, 233, 234, 14, 252, 253, 254, 255, 256, 257] (by decide +kernel) (by decide +kernel)
set_option maxRecDepth 20000 in
theorem gL_act_X4_fits : GoodIn wsL_act (wsV RL 62 RX4 yX4_fits wsX4_fits) := goodIn_app (goodIn_of _ (by decide +kernel)) ggL_act_X4_fits
set_option maxRecDepth 20000 in
theorem ggL_act_X2_canJoin : GoodIn wsL_act wsX2_canJoin := goodIn_ca (goodIn_r _ [238, 66, 67, 68, 59, 69, 70, 71, 72, 239, 240, 241, 242, 202, 203, 204, 85, 205, 87, 206, 93, 94, 65, 95, 96, 243, 223, 224, 225, 226, 98, 99, 100, 101, 264, 265, 266, 258, 259, 260, 261, 262, 263, 267] (by decide +kernel) (by decide +kernel)) (goodIn_sub (fun _ h => List.mem_cons_of_mem _ (List.mem_append_left _ (List.mem_append_right _ h))) (by decide +kernel))
set_option maxRecDepth 20000 in
theorem gL_act_X2_canJoin : GoodIn wsL_act (wsV RL 66 RX2 yX2_canJoin wsX2_canJoin) := goodIn_app (goodIn_of _ (by decide +kernel)) ggL_act_X2_canJoin
set_option maxRecDepth 20000 in
theorem ggL_act_X4_join : GoodIn wsL_act wsX4_join := goodIn_r _ [247, 25, 184, 185, 186, 12, 187, 15, 188, 189, 190, 29, 47, 48, 49, 50, 14, 30, 31, 32, 33, 51, 52, 53, 54, 55, 16, 11, 13, 252, 253, 254, 255, 256, 257] (by decide +kernel) (by decide +kernel)
set_option maxRecDepth 20000 in
theorem gL_act_X4_join : GoodIn wsL_act (wsV RL 69 RX4 yX4_join wsX4_join) := goodIn_app (goodIn_of _ (by decide +kernel)) ggL_act_X4_join
theorem gcL_act_X2_join_m0 : ∀ w ∈ (vx_atS RX2 36 "java/lang/IllegalStateException" ["java/lang/RuntimeException", "java/lang/Exception"]).filter goodWord, w ∈ wsL_act := fun _ h => (List.mem_cons_of_mem _ (List.mem_append_left _ (List.mem_append_left _ (List.mem_append_right _ h))))
theorem gcL_act_X2_join_m1 : ∀ w ∈ (vx_atS RX2 129 "java/lang/IndexOutOfBoundsException" ["java/lang/RuntimeException", "java/lang/Exception"]).filter goodWord, w ∈ wsL_act := fun _ h => (List.mem_cons_of_mem _ (List.mem_append_left _ (List.mem_append_right _ h)))
set_option maxRecDepth 20000 in
theorem gcL_act_X2_join_h : GoodIn wsL_act ([.code yX2_join cX2_join 5 (some .int)]) := goodIn_r _ [251] (by decide +kernel) (by decide +kernel)
set_option maxRecDepth 20000 in
theorem gcL_act_X2_join_r1 : GoodIn wsL_act (wsX2_join_r1) := goodIn_r _ [61, 62, 217, 66, 67, 68, 59, 69, 70, 71, 72, 239, 240, 241, 242, 202, 203, 204, 85, 205, 87, 206, 93, 94] (by decide +kernel) (by decide +kernel)
set_option maxRecDepth 20000 in
theorem gcL_act_X2_join_r2 : GoodIn wsL_act (wsX2_join_r2) := goodIn_r _ [65, 95, 96, 243, 223, 224, 225, 226, 98, 99, 100, 101, 198, 199, 200, 201, 197, 131, 132, 133, 134, 143, 144, 145] (by decide +kernel) (by decide +kernel)
set_option maxRecDepth 20000 in
theorem gcL_act_X2_join_r3 : GoodIn wsL_act (wsX2_join_r3) := goodIn_r _ [146, 147, 148, 149, 150, 151, 152, 153, 154, 155, 106, 156, 157, 158, 159, 160, 161, 162, 163, 164, 165, 136, 137, 138] (by decide +kernel) (by decide +kernel)
set_option maxRecDepth 20000 in
theorem gcL_act_X2_join_r4 : GoodIn wsL_act (wsX2_join_r4) := goodIn_r _ [166, 140, 141, 142, 207, 82, 83, 84, 86, 88, 89, 90, 91, 92, 97, 102, 103, 104, 105] (by decide +kernel) (by decide +kernel)
set_option maxRecDepth 20000 in
theorem gcL_act_X2_join_wsX10 : GoodIn wsL_act (wsX10) := goodIn_r _ [267] (by decide +kernel) (by decide +kernel)
set_option maxRecDepth 20000 in
theorem gcL_act_X2_join_wsX20 : GoodIn wsL_act (wsX20) := goodIn_r _ [264, 265, 266] (by decide +kernel) (by decide +kernel)
set_option maxRecDepth 20000 in
theorem gcL_act_X2_join_wsX00 : GoodIn wsL_act (wsX00) := goodIn_r _ [258, 259, 260, 261, 262, 263] (by decide +kernel) (by decide +kernel)
theorem ggL_act_X2_join : GoodIn wsL_act wsX2_join := goodIn_app (a := [.code yX2_join cX2_join 5 (some .int)]) gcL_act_X2_join_h (goodIn_app (goodIn_app (goodIn_app (goodIn_app (goodIn_app (goodIn_app gcL_act_X2_join_r1 (goodIn_app gcL_act_X2_join_r2 (goodIn_app gcL_act_X2_join_r3 gcL_act_X2_join_r4))) gcL_act_X2_join_wsX10) gcL_act_X2_join_wsX20) gcL_act_X2_join_wsX00) (goodIn_sub (big := wsL_act) (fun w h => gcL_act_X2_join_m0 w h) (by decide +kernel))) (goodIn_sub (big := wsL_act) (fun w h => gcL_act_X2_join_m1 w h) (by decide +kernel)))
set_option maxRecDepth 20000 in
theorem gL_act_X2_join : GoodIn wsL_act (wsV RL 72 RX2 yX2_join wsX2_join) := goodIn_app (goodIn_of _ (by decide +kernel)) ggL_act_X2_join
theorem dL_act_0 : decode cL_act 0 = .ok (.iload_n 2, 1) := by decide +kernel
theorem dL_act_1 : decode cL_act 1 = .ok (.iconst 4, 1) := by decide +kernel
theorem dL_act_2 : decode cL_act 2 = .ok (.ishr, 1) := by decide +kernel
theorem dL_act_3 : decode cL_act 3 = .ok (.bipush 6, 2) := by decide +kernel
theorem dL_act_5 : decode cL_act 5 = .ok (.invokestatic 9, 3) := by decide +kernel
theorem dL_act_8 : decode cL_act 8 = .ok (.istore_n 3, 1) := by decide +kernel
theorem dL_act_9 : decode cL_act 9 = .ok (.iload_n 2, 1) := by decide +kernel
theorem dL_act_10 : decode cL_act 10 = .ok (.bipush 6, 2) := by decide +kernel
theorem dL_act_12 : decode cL_act 12 = .ok (.ishr, 1) := by decide +kernel
theorem dL_act_13 : decode cL_act 13 = .ok (.iload_n 2, 1) := by decide +kernel
theorem dL_act_14 : decode cL_act 14 = .ok (.bipush 9, 2) := by decide +kernel
theorem dL_act_16 : decode cL_act 16 = .ok (.ishr, 1) := by decide +kernel
theorem dL_act_17 : decode cL_act 17 = .ok (.iconst 3, 1) := by decide +kernel
theorem dL_act_18 : decode cL_act 18 = .ok (.invokestatic 9, 3) := by decide +kernel
theorem dL_act_21 : decode cL_act 21 = .ok (.ifCond .ne 9, 3) := by decide +kernel
theorem dL_act_24 : decode cL_act 24 = .ok (.sipush 1000, 3) := by decide +kernel
theorem dL_act_27 : decode cL_act 27 = .ok (.goto 5, 3) := by decide +kernel
theorem dL_act_30 : decode cL_act 30 = .ok (.bipush 30, 2) := by decide +kernel
theorem dL_act_32 : decode cL_act 32 = .ok (.invokestatic 9, 3) := by decide +kernel
theorem dL_act_35 : decode cL_act 35 = .ok (.istore 4, 2) := by decide +kernel
theorem dL_act_37 : decode cL_act 37 = .ok (.iload_n 2, 1) := by decide +kernel
theorem dL_act_38 : decode cL_act 38 = .ok (.bipush 7, 2) := by decide +kernel
theorem dL_act_40 : decode cL_act 40 = .ok (.ishr, 1) := by decide +kernel
theorem dL_act_41 : decode cL_act 41 = .ok (.bipush 6, 2) := by decide +kernel
theorem dL_act_43 : decode cL_act 43 = .ok (.invokestatic 9, 3) := by decide +kernel
theorem dL_act_46 : decode cL_act 46 = .ok (.istore 5, 2) := by decide +kernel
theorem dL_act_48 : decode cL_act 48 = .ok (.aload_n 1, 1) := by decide +kernel
theorem dL_act_49 : decode cL_act 49 = .ok (.getfield 15, 3) := by decide +kernel
theorem dL_act_52 : decode cL_act 52 = .ok (.iload_n 3, 1) := by decide +kernel
theorem dL_act_53 : decode cL_act 53 = .ok (.aaload, 1) := by decide +kernel
theorem dL_act_54 : decode cL_act 54 = .ok (.invokestatic 21, 3) := by decide +kernel
theorem dL_act_57 : decode cL_act 57 = .ok (.anewarray 25, 3) := by decide +kernel
theorem dL_act_60 : decode cL_act 60 = .ok (.astore 6, 2) := by decide +kernel
theorem dL_act_62 : decode cL_act 62 = .ok (.aload_n 1, 1) := by decide +kernel
theorem dL_act_63 : decode cL_act 63 = .ok (.getfield 15, 3) := by decide +kernel
theorem dL_act_66 : decode cL_act 66 = .ok (.iload_n 3, 1) := by decide +kernel
theorem dL_act_67 : decode cL_act 67 = .ok (.aaload, 1) := by decide +kernel
theorem dL_act_68 : decode cL_act 68 = .ok (.aload 6, 2) := by decide +kernel
theorem dL_act_70 : decode cL_act 70 = .ok (.iconst 0, 1) := by decide +kernel
theorem dL_act_71 : decode cL_act 71 = .ok (.invokestatic 27, 3) := by decide +kernel
theorem dL_act_74 : decode cL_act 74 = .ok (.pop, 1) := by decide +kernel
theorem dL_act_75 : decode cL_act 75 = .ok (.aload 6, 2) := by decide +kernel
theorem dL_act_77 : decode cL_act 77 = .ok (.arraylength, 1) := by decide +kernel
theorem dL_act_78 : decode cL_act 78 = .ok (.ifCond .le 31, 3) := by decide +kernel
theorem dL_act_81 : decode cL_act 81 = .ok (.iload_n 2, 1) := by decide +kernel
theorem dL_act_82 : decode cL_act 82 = .ok (.iconst 3, 1) := by decide +kernel
theorem dL_act_83 : decode cL_act 83 = .ok (.ishr, 1) := by decide +kernel
theorem dL_act_84 : decode cL_act 84 = .ok (.iconst 4, 1) := by decide +kernel
theorem dL_act_85 : decode cL_act 85 = .ok (.invokestatic 9, 3) := by decide +kernel
theorem dL_act_88 : decode cL_act 88 = .ok (.ifCond .le 21, 3) := by decide +kernel
theorem dL_act_91 : decode cL_act 91 = .ok (.aload 6, 2) := by decide +kernel
theorem dL_act_93 : decode cL_act 93 = .ok (.iload_n 2, 1) := by decide +kernel
theorem dL_act_94 : decode cL_act 94 = .ok (.iconst 5, 1) := by decide +kernel
theorem dL_act_95 : decode cL_act 95 = .ok (.ishr, 1) := by decide +kernel
theorem dL_act_96 : decode cL_act 96 = .ok (.aload 6, 2) := by decide +kernel
theorem dL_act_98 : decode cL_act 98 = .ok (.arraylength, 1) := by decide +kernel
theorem dL_act_99 : decode cL_act 99 = .ok (.invokestatic 9, 3) := by decide +kernel
theorem dL_act_102 : decode cL_act 102 = .ok (.aaload, 1) := by decide +kernel
theorem dL_act_103 : decode cL_act 103 = .ok (.getfield 31, 3) := by decide +kernel
theorem dL_act_106 : decode cL_act 106 = .ok (.goto 5, 3) := by decide +kernel
theorem dL_act_109 : decode cL_act 109 = .ok (.iload 4, 2) := by decide +kernel
theorem dL_act_111 : decode cL_act 111 = .ok (.istore 7, 2) := by decide +kernel
theorem dL_act_113 : decode cL_act 113 = .ok (.iconst 1, 1) := by decide +kernel
theorem dL_act_114 : decode cL_act 114 = .ok (.istore 8, 2) := by decide +kernel
theorem dL_act_116 : decode cL_act 116 = .ok (.iload_n 2, 1) := by decide +kernel
theorem dL_act_117 : decode cL_act 117 = .ok (.bipush 14, 2) := by decide +kernel
theorem dL_act_119 : decode cL_act 119 = .ok (.invokestatic 9, 3) := by decide +kernel
theorem dL_act_122 : decode cL_act 122 = .ok (.tableswitch 309 0 11 #[62, 62, 62, 62, 62, 133, 133, 133, 133, 187, 187, 241], 62) := by decide +kernel
theorem dL_act_184 : decode cL_act 184 = .ok (.aload_n 1, 1) := by decide +kernel
theorem dL_act_185 : decode cL_act 185 = .ok (.invokevirtual 35, 3) := by decide +kernel
theorem dL_act_188 : decode cL_act 188 = .ok (.bipush 40, 2) := by decide +kernel
theorem dL_act_190 : decode cL_act 190 = .ok (.if_icmp .ge 21, 3) := by decide +kernel
theorem dL_act_193 : decode cL_act 193 = .ok (.aload_n 1, 1) := by decide +kernel
theorem dL_act_194 : decode cL_act 194 = .ok (.getfield 15, 3) := by decide +kernel
theorem dL_act_197 : decode cL_act 197 = .ok (.iload_n 3, 1) := by decide +kernel
theorem dL_act_198 : decode cL_act 198 = .ok (.aaload, 1) := by decide +kernel
theorem dL_act_199 : decode cL_act 199 = .ok (.iload 4, 2) := by decide +kernel
theorem dL_act_201 : decode cL_act 201 = .ok (.invokestatic 39, 3) := by decide +kernel
theorem dL_act_204 : decode cL_act 204 = .ok (.ifCond .ne 7, 3) := by decide +kernel
theorem dL_act_207 : decode cL_act 207 = .ok (.iconst 1, 1) := by decide +kernel
theorem dL_act_208 : decode cL_act 208 = .ok (.goto 4, 3) := by decide +kernel
theorem dL_act_211 : decode cL_act 211 = .ok (.iconst 0, 1) := by decide +kernel
theorem dL_act_212 : decode cL_act 212 = .ok (.istore 8, 2) := by decide +kernel
theorem dL_act_214 : decode cL_act 214 = .ok (.iload 8, 2) := by decide +kernel
theorem dL_act_216 : decode cL_act 216 = .ok (.ifCond .eq 13, 3) := by decide +kernel
theorem dL_act_219 : decode cL_act 219 = .ok (.aload_n 1, 1) := by decide +kernel
theorem dL_act_220 : decode cL_act 220 = .ok (.iload_n 3, 1) := by decide +kernel
theorem dL_act_221 : decode cL_act 221 = .ok (.iload 4, 2) := by decide +kernel
theorem dL_act_223 : decode cL_act 223 = .ok (.invokevirtual 43, 3) := by decide +kernel
theorem dL_act_226 : decode cL_act 226 = .ok (.goto 4, 3) := by decide +kernel
theorem dL_act_229 : decode cL_act 229 = .ok (.iconst (-1), 1) := by decide +kernel
theorem dL_act_230 : decode cL_act 230 = .ok (.istore 9, 2) := by decide +kernel
theorem dL_act_232 : decode cL_act 232 = .ok (.aload_n 0, 1) := by decide +kernel
theorem dL_act_233 : decode cL_act 233 = .ok (.iload_n 3, 1) := by decide +kernel
theorem dL_act_234 : decode cL_act 234 = .ok (.iload 4, 2) := by decide +kernel
theorem dL_act_236 : decode cL_act 236 = .ok (.invokevirtual 46, 3) := by decide +kernel
theorem dL_act_239 : decode cL_act 239 = .ok (.iload 9, 2) := by decide +kernel
theorem dL_act_241 : decode cL_act 241 = .ok (.if_icmp .ne 12, 3) := by decide +kernel
theorem dL_act_244 : decode cL_act 244 = .ok (.iload 8, 2) := by decide +kernel
theorem dL_act_246 : decode cL_act 246 = .ok (.ifCond .eq 7, 3) := by decide +kernel
theorem dL_act_249 : decode cL_act 249 = .ok (.iconst 1, 1) := by decide +kernel
theorem dL_act_250 : decode cL_act 250 = .ok (.goto 4, 3) := by decide +kernel
theorem dL_act_253 : decode cL_act 253 = .ok (.iconst 0, 1) := by decide +kernel
theorem dL_act_254 : decode cL_act 254 = .ok (.ireturn, 1) := by decide +kernel
theorem dL_act_255 : decode cL_act 255 = .ok (.aload_n 1, 1) := by decide +kernel
theorem dL_act_256 : decode cL_act 256 = .ok (.getfield 15, 3) := by decide +kernel
theorem dL_act_259 : decode cL_act 259 = .ok (.iload_n 3, 1) := by decide +kernel
theorem dL_act_260 : decode cL_act 260 = .ok (.aaload, 1) := by decide +kernel
theorem dL_act_261 : decode cL_act 261 = .ok (.iload 7, 2) := by decide +kernel
theorem dL_act_263 : decode cL_act 263 = .ok (.invokestatic 39, 3) := by decide +kernel
theorem dL_act_266 : decode cL_act 266 = .ok (.istore 8, 2) := by decide +kernel
theorem dL_act_268 : decode cL_act 268 = .ok (.iload 8, 2) := by decide +kernel
theorem dL_act_270 : decode cL_act 270 = .ok (.ifCond .eq 13, 3) := by decide +kernel
theorem dL_act_273 : decode cL_act 273 = .ok (.aload_n 1, 1) := by decide +kernel
theorem dL_act_274 : decode cL_act 274 = .ok (.iload_n 3, 1) := by decide +kernel
theorem dL_act_275 : decode cL_act 275 = .ok (.iload 7, 2) := by decide +kernel
theorem dL_act_277 : decode cL_act 277 = .ok (.invokevirtual 49, 3) := by decide +kernel
theorem dL_act_280 : decode cL_act 280 = .ok (.goto 4, 3) := by decide +kernel
theorem dL_act_283 : decode cL_act 283 = .ok (.iconst (-1), 1) := by decide +kernel
theorem dL_act_284 : decode cL_act 284 = .ok (.istore 9, 2) := by decide +kernel
theorem dL_act_286 : decode cL_act 286 = .ok (.aload_n 0, 1) := by decide +kernel
theorem dL_act_287 : decode cL_act 287 = .ok (.iload_n 3, 1) := by decide +kernel
theorem dL_act_288 : decode cL_act 288 = .ok (.iload 7, 2) := by decide +kernel
theorem dL_act_290 : decode cL_act 290 = .ok (.invokevirtual 52, 3) := by decide +kernel
theorem dL_act_293 : decode cL_act 293 = .ok (.iload 9, 2) := by decide +kernel
theorem dL_act_295 : decode cL_act 295 = .ok (.if_icmp .ne 12, 3) := by decide +kernel
theorem dL_act_298 : decode cL_act 298 = .ok (.iload 8, 2) := by decide +kernel
theorem dL_act_300 : decode cL_act 300 = .ok (.ifCond .eq 7, 3) := by decide +kernel
theorem dL_act_303 : decode cL_act 303 = .ok (.iconst 1, 1) := by decide +kernel
theorem dL_act_304 : decode cL_act 304 = .ok (.goto 4, 3) := by decide +kernel
theorem dL_act_307 : decode cL_act 307 = .ok (.iconst 0, 1) := by decide +kernel
theorem dL_act_308 : decode cL_act 308 = .ok (.ireturn, 1) := by decide +kernel
theorem dL_act_309 : decode cL_act 309 = .ok (.aload_n 1, 1) := by decide +kernel
theorem dL_act_310 : decode cL_act 310 = .ok (.getfield 15, 3) := by decide +kernel
theorem dL_act_313 : decode cL_act 313 = .ok (.iload_n 3, 1) := by decide +kernel
theorem dL_act_314 : decode cL_act 314 = .ok (.aaload, 1) := by decide +kernel
theorem dL_act_315 : decode cL_act 315 = .ok (.iload 7, 2) := by decide +kernel
theorem dL_act_317 : decode cL_act 317 = .ok (.invokestatic 39, 3) := by decide +kernel
theorem dL_act_320 : decode cL_act 320 = .ok (.istore 8, 2) := by decide +kernel
theorem dL_act_322 : decode cL_act 322 = .ok (.iload 8, 2) := by decide +kernel
theorem dL_act_324 : decode cL_act 324 = .ok (.ifCond .eq 13, 3) := by decide +kernel
theorem dL_act_327 : decode cL_act 327 = .ok (.aload_n 1, 1) := by decide +kernel
theorem dL_act_328 : decode cL_act 328 = .ok (.iload_n 3, 1) := by decide +kernel
theorem dL_act_329 : decode cL_act 329 = .ok (.iload 7, 2) := by decide +kernel
theorem dL_act_331 : decode cL_act 331 = .ok (.invokevirtual 53, 3) := by decide +kernel
theorem dL_act_334 : decode cL_act 334 = .ok (.goto 4, 3) := by decide +kernel
theorem dL_act_337 : decode cL_act 337 = .ok (.iconst (-1), 1) := by decide +kernel
theorem dL_act_338 : decode cL_act 338 = .ok (.istore 9, 2) := by decide +kernel
theorem dL_act_340 : decode cL_act 340 = .ok (.aload_n 0, 1) := by decide +kernel
theorem dL_act_341 : decode cL_act 341 = .ok (.iload_n 3, 1) := by decide +kernel
theorem dL_act_342 : decode cL_act 342 = .ok (.iload 7, 2) := by decide +kernel
theorem dL_act_344 : decode cL_act 344 = .ok (.invokevirtual 56, 3) := by decide +kernel
theorem dL_act_347 : decode cL_act 347 = .ok (.iload 9, 2) := by decide +kernel
theorem dL_act_349 : decode cL_act 349 = .ok (.if_icmp .ne 12, 3) := by decide +kernel
theorem dL_act_352 : decode cL_act 352 = .ok (.iload 8, 2) := by decide +kernel
theorem dL_act_354 : decode cL_act 354 = .ok (.ifCond .eq 7, 3) := by decide +kernel
theorem dL_act_357 : decode cL_act 357 = .ok (.iconst 1, 1) := by decide +kernel
theorem dL_act_358 : decode cL_act 358 = .ok (.goto 4, 3) := by decide +kernel
theorem dL_act_361 : decode cL_act 361 = .ok (.iconst 0, 1) := by decide +kernel
theorem dL_act_362 : decode cL_act 362 = .ok (.ireturn, 1) := by decide +kernel
theorem dL_act_363 : decode cL_act 363 = .ok (.aload_n 1, 1) := by decide +kernel
theorem dL_act_364 : decode cL_act 364 = .ok (.getfield 15, 3) := by decide +kernel
theorem dL_act_367 : decode cL_act 367 = .ok (.iload 5, 2) := by decide +kernel
theorem dL_act_369 : decode cL_act 369 = .ok (.aaload, 1) := by decide +kernel
theorem dL_act_370 : decode cL_act 370 = .ok (.ifnonnull 13, 3) := by decide +kernel
theorem dL_act_373 : decode cL_act 373 = .ok (.iload 5, 2) := by decide +kernel
theorem dL_act_375 : decode cL_act 375 = .ok (.iload_n 3, 1) := by decide +kernel
theorem dL_act_376 : decode cL_act 376 = .ok (.if_icmp .eq 7, 3) := by decide +kernel
theorem dL_act_379 : decode cL_act 379 = .ok (.iconst 1, 1) := by decide +kernel
theorem dL_act_380 : decode cL_act 380 = .ok (.goto 4, 3) := by decide +kernel
theorem dL_act_383 : decode cL_act 383 = .ok (.iconst 0, 1) := by decide +kernel
theorem dL_act_384 : decode cL_act 384 = .ok (.istore 8, 2) := by decide +kernel
theorem dL_act_386 : decode cL_act 386 = .ok (.iload 8, 2) := by decide +kernel
theorem dL_act_388 : decode cL_act 388 = .ok (.ifCond .eq 15, 3) := by decide +kernel
theorem dL_act_391 : decode cL_act 391 = .ok (.aload_n 1, 1) := by decide +kernel
theorem dL_act_392 : decode cL_act 392 = .ok (.iload_n 3, 1) := by decide +kernel
theorem dL_act_393 : decode cL_act 393 = .ok (.iload 4, 2) := by decide +kernel
theorem dL_act_395 : decode cL_act 395 = .ok (.iload 5, 2) := by decide +kernel
theorem dL_act_397 : decode cL_act 397 = .ok (.invokevirtual 57, 3) := by decide +kernel
theorem dL_act_400 : decode cL_act 400 = .ok (.goto 4, 3) := by decide +kernel
theorem dL_act_403 : decode cL_act 403 = .ok (.iconst (-1), 1) := by decide +kernel
theorem dL_act_404 : decode cL_act 404 = .ok (.istore 9, 2) := by decide +kernel
theorem dL_act_406 : decode cL_act 406 = .ok (.aload_n 0, 1) := by decide +kernel
theorem dL_act_407 : decode cL_act 407 = .ok (.iload_n 3, 1) := by decide +kernel
theorem dL_act_408 : decode cL_act 408 = .ok (.iload 4, 2) := by decide +kernel
theorem dL_act_410 : decode cL_act 410 = .ok (.iload 5, 2) := by decide +kernel
theorem dL_act_412 : decode cL_act 412 = .ok (.invokevirtual 61, 3) := by decide +kernel
theorem dL_act_415 : decode cL_act 415 = .ok (.iload 9, 2) := by decide +kernel
theorem dL_act_417 : decode cL_act 417 = .ok (.if_icmp .ne 12, 3) := by decide +kernel
theorem dL_act_420 : decode cL_act 420 = .ok (.iload 8, 2) := by decide +kernel
theorem dL_act_422 : decode cL_act 422 = .ok (.ifCond .eq 7, 3) := by decide +kernel
theorem dL_act_425 : decode cL_act 425 = .ok (.iconst 1, 1) := by decide +kernel
theorem dL_act_426 : decode cL_act 426 = .ok (.goto 4, 3) := by decide +kernel
theorem dL_act_429 : decode cL_act 429 = .ok (.iconst 0, 1) := by decide +kernel
theorem dL_act_430 : decode cL_act 430 = .ok (.ireturn, 1) := by decide +kernel
theorem dL_act_431 : decode cL_act 431 = .ok (.aload_n 1, 1) := by decide +kernel
theorem dL_act_432 : decode cL_act 432 = .ok (.iload_n 3, 1) := by decide +kernel
theorem dL_act_433 : decode cL_act 433 = .ok (.iload 5, 2) := by decide +kernel
theorem dL_act_435 : decode cL_act 435 = .ok (.invokevirtual 62, 3) := by decide +kernel
theorem dL_act_438 : decode cL_act 438 = .ok (.istore 8, 2) := by decide +kernel
theorem dL_act_440 : decode cL_act 440 = .ok (.aload_n 0, 1) := by decide +kernel
theorem dL_act_441 : decode cL_act 441 = .ok (.iload_n 3, 1) := by decide +kernel
theorem dL_act_442 : decode cL_act 442 = .ok (.iload 5, 2) := by decide +kernel
theorem dL_act_444 : decode cL_act 444 = .ok (.invokevirtual 66, 3) := by decide +kernel
theorem dL_act_447 : decode cL_act 447 = .ok (.iload 8, 2) := by decide +kernel
theorem dL_act_449 : decode cL_act 449 = .ok (.if_icmp .eq 5, 3) := by decide +kernel
theorem dL_act_452 : decode cL_act 452 = .ok (.iconst 0, 1) := by decide +kernel
theorem dL_act_453 : decode cL_act 453 = .ok (.ireturn, 1) := by decide +kernel
theorem dL_act_454 : decode cL_act 454 = .ok (.iload 8, 2) := by decide +kernel
theorem dL_act_456 : decode cL_act 456 = .ok (.ifCond .eq 13, 3) := by decide +kernel
theorem dL_act_459 : decode cL_act 459 = .ok (.aload_n 1, 1) := by decide +kernel
theorem dL_act_460 : decode cL_act 460 = .ok (.iload_n 3, 1) := by decide +kernel
theorem dL_act_461 : decode cL_act 461 = .ok (.iload 5, 2) := by decide +kernel
theorem dL_act_463 : decode cL_act 463 = .ok (.invokevirtual 69, 3) := by decide +kernel
theorem dL_act_466 : decode cL_act 466 = .ok (.goto 4, 3) := by decide +kernel
theorem dL_act_469 : decode cL_act 469 = .ok (.iconst (-1), 1) := by decide +kernel
theorem dL_act_470 : decode cL_act 470 = .ok (.istore 9, 2) := by decide +kernel
theorem dL_act_472 : decode cL_act 472 = .ok (.aload_n 0, 1) := by decide +kernel
theorem dL_act_473 : decode cL_act 473 = .ok (.iload_n 3, 1) := by decide +kernel
theorem dL_act_474 : decode cL_act 474 = .ok (.iload 5, 2) := by decide +kernel
theorem dL_act_476 : decode cL_act 476 = .ok (.invokevirtual 72, 3) := by decide +kernel
theorem dL_act_479 : decode cL_act 479 = .ok (.iload 9, 2) := by decide +kernel
theorem dL_act_481 : decode cL_act 481 = .ok (.if_icmp .ne 12, 3) := by decide +kernel
theorem dL_act_484 : decode cL_act 484 = .ok (.iload 8, 2) := by decide +kernel
theorem dL_act_486 : decode cL_act 486 = .ok (.ifCond .eq 7, 3) := by decide +kernel
theorem dL_act_489 : decode cL_act 489 = .ok (.iconst 1, 1) := by decide +kernel
theorem dL_act_490 : decode cL_act 490 = .ok (.goto 4, 3) := by decide +kernel
theorem dL_act_493 : decode cL_act 493 = .ok (.iconst 0, 1) := by decide +kernel
theorem dL_act_494 : decode cL_act 494 = .ok (.ireturn, 1) := by decide +kernel
theorem dL_act_495 : decode cL_act 495 = .ok (.astore 9, 2) := by decide +kernel
theorem dL_act_497 : decode cL_act 497 = .ok (.iload 8, 2) := by decide +kernel
theorem dL_act_499 : decode cL_act 499 = .ok (.ifCond .ne 7, 3) := by decide +kernel
theorem dL_act_502 : decode cL_act 502 = .ok (.iconst 1, 1) := by decide +kernel
theorem dL_act_503 : decode cL_act 503 = .ok (.goto 4, 3) := by decide +kernel
theorem dL_act_506 : decode cL_act 506 = .ok (.iconst 0, 1) := by decide +kernel
theorem dL_act_507 : decode cL_act 507 = .ok (.ireturn, 1) := by decide +kernel
set_option maxRecDepth 20000 in
theorem ggL_build_X4_init : GoodIn wsL_build wsX4_init := goodIn_r _ [5, 6, 7, 8, 9, 10, 264, 265] (by decide +kernel) (by decide +kernel)
set_option maxRecDepth 20000 in
theorem gL_build_X4_init_n75 : GoodIn wsL_build (wsX4_init) := ggL_build_X4_init
set_option maxRecDepth 20000 in
theorem ggL_build_L_cell : GoodIn wsL_build wsL_cell := goodIn_r _ [14, 15] (by decide +kernel) (by decide +kernel)
set_option maxRecDepth 20000 in
theorem gL_build_L_cell : GoodIn wsL_build (va_wsS RL 76 yL_cell wsL_cell) := goodIn_app (goodIn_of _ (by decide +kernel)) ggL_build_L_cell
set_option maxRecDepth 20000 in
theorem ggL_build_L_below : GoodIn wsL_build wsL_below := goodIn_r _ [18, 19] (by decide +kernel) (by decide +kernel)
set_option maxRecDepth 20000 in
theorem gL_build_L_below : GoodIn wsL_build (va_wsS RL 9 yL_below wsL_below) := goodIn_app (goodIn_of _ (by decide +kernel)) ggL_build_L_below
theorem gcL_build_L_act_m0 : ∀ w ∈ (vx_atS RX2 36 "java/lang/IllegalStateException" ["java/lang/RuntimeException", "java/lang/Exception"]).filter goodWord, w ∈ wsL_build := fun _ h => (List.mem_cons_of_mem _ (List.mem_append_left _ (List.mem_append_left _ (List.mem_append_right _ h))))
theorem gcL_build_L_act_m1 : ∀ w ∈ (vx_atS RX2 129 "java/lang/IndexOutOfBoundsException" ["java/lang/RuntimeException", "java/lang/Exception"]).filter goodWord, w ∈ wsL_build := fun _ h => (List.mem_cons_of_mem _ (List.mem_append_left _ (List.mem_append_right _ h)))
theorem gcL_build_L_act_m2 : ∀ w ∈ (vx_atS RX2 212 "java/lang/IllegalArgumentException" ["java/lang/RuntimeException", "java/lang/Exception"]).filter goodWord, w ∈ wsL_build := fun _ h => (List.mem_cons_of_mem _ (List.mem_append_right _ h))
set_option maxRecDepth 20000 in
theorem gcL_build_L_act_h : GoodIn wsL_build ([.codeWith yL_act cL_act 10 (some .boolean) [(116, 254, 495, 73), (255, 308, 495, 73), (309, 362, 495, 73), (363, 430, 495, 73), (431, 453, 495, 73), (454, 494, 495, 73)]]) := goodIn_r _ [22] (by decide +kernel) (by decide +kernel)
set_option maxRecDepth 20000 in
theorem gcL_build_L_act_r1 : GoodIn wsL_build (wsL_act_r1) := goodIn_r _ [23, 24, 25, 26, 16, 17, 13, 18, 19, 27, 28, 3, 29, 30, 31, 32, 33, 34, 35, 36, 37, 38, 39, 40] (by decide +kernel) (by decide +kernel)
set_option maxRecDepth 20000 in
theorem gcL_build_L_act_r2 : GoodIn wsL_build (wsL_act_r2) := goodIn_r _ [10, 41, 42, 43, 44, 45, 46, 47, 9, 48, 49, 50, 51, 52, 53, 54, 55, 56, 57, 7, 8, 58, 59, 60] (by decide +kernel) (by decide +kernel)
set_option maxRecDepth 20000 in
theorem gcL_build_L_act_r3 : GoodIn wsL_build (wsL_act_r3) := goodIn_r _ [61, 62, 63, 64, 65, 66, 67, 68, 69, 70, 71, 72, 73, 74, 75, 76, 77, 78, 79, 80, 81, 82, 83, 84] (by decide +kernel) (by decide +kernel)
set_option maxRecDepth 20000 in
theorem gcL_build_L_act_r4 : GoodIn wsL_build (wsL_act_r4) := goodIn_r _ [85, 86, 87, 88, 89, 90, 91, 92, 93, 94, 95, 96, 97, 98, 99, 100, 101, 102, 103, 104, 105, 106, 107, 108] (by decide +kernel) (by decide +kernel)
set_option maxRecDepth 20000 in
theorem gcL_build_L_act_r5 : GoodIn wsL_build (wsL_act_r5) := goodIn_r _ [109, 110, 111, 112, 113, 114, 115, 116, 117, 118, 119, 120, 121, 122, 123, 124, 125, 126, 127, 128, 129, 130, 131, 132] (by decide +kernel) (by decide +kernel)
set_option maxRecDepth 20000 in
theorem gcL_build_L_act_r6 : GoodIn wsL_build (wsL_act_r6) := goodIn_r _ [133, 134, 135, 136, 137, 138, 139, 140, 141, 142, 143, 144, 145, 146, 147, 148, 149, 150, 151, 152, 153, 154, 155, 156] (by decide +kernel) (by decide +kernel)
set_option maxRecDepth 20000 in
theorem gcL_build_L_act_r7 : GoodIn wsL_build (wsL_act_r7) := goodIn_r _ [157, 158, 159, 160, 161, 162, 163, 164, 165, 166, 167, 168, 169, 170, 171, 172, 173, 174, 175, 176, 177, 178, 179, 180] (by decide +kernel) (by decide +kernel)
set_option maxRecDepth 20000 in
theorem gcL_build_L_act_r8 : GoodIn wsL_build (wsL_act_r8) := goodIn_r _ [181, 182, 183, 184, 185, 186, 187, 188, 189, 190, 191, 192, 193, 194, 195, 196, 197, 198, 199, 200, 201, 202, 203, 204] (by decide +kernel) (by decide +kernel)
set_option maxRecDepth 20000 in
theorem gcL_build_L_act_r9 : GoodIn wsL_build (wsL_act_r9) := goodIn_r _ [205, 206, 207, 208, 209, 210, 211, 212, 213, 214, 215, 216, 217, 218, 219, 220, 221, 222, 223, 224, 225, 226, 227, 228] (by decide +kernel) (by decide +kernel)
set_option maxRecDepth 20000 in
theorem gcL_build_L_act_r10 : GoodIn wsL_build (wsL_act_r10) := goodIn_r _ [229, 230, 231, 232, 233, 234, 235, 236, 237, 238, 239, 240, 241, 242, 243, 244, 245, 246, 247, 248, 249, 250, 251, 252] (by decide +kernel) (by decide +kernel)
set_option maxRecDepth 20000 in
theorem gcL_build_L_act_r11 : GoodIn wsL_build (wsL_act_r11) := goodIn_r _ [253, 254, 255, 256, 257, 258, 259, 260, 261, 262, 263] (by decide +kernel) (by decide +kernel)
set_option maxRecDepth 20000 in
theorem gcL_build_L_act_wsX40 : GoodIn wsL_build (wsX40) := goodIn_r _ [264, 265] (by decide +kernel) (by decide +kernel)
set_option maxRecDepth 20000 in
theorem gcL_build_L_act_wsX30 : GoodIn wsL_build (wsX30) := goodIn_r _ [266, 267, 268, 269] (by decide +kernel) (by decide +kernel)
set_option maxRecDepth 20000 in
theorem gcL_build_L_act_wsX00 : GoodIn wsL_build (wsX00) := goodIn_r _ [270, 271, 272, 273, 274, 275] (by decide +kernel) (by decide +kernel)
set_option maxRecDepth 20000 in
theorem gcL_build_L_act_wsX20 : GoodIn wsL_build (wsX20) := goodIn_r _ [276, 277, 278] (by decide +kernel) (by decide +kernel)
set_option maxRecDepth 20000 in
theorem gcL_build_L_act_wsX10 : GoodIn wsL_build (wsX10) := goodIn_r _ [279] (by decide +kernel) (by decide +kernel)
theorem ggL_build_L_act : GoodIn wsL_build wsL_act := goodIn_app (a := [.codeWith yL_act cL_act 10 (some .boolean) [(116, 254, 495, 73), (255, 308, 495, 73), (309, 362, 495, 73), (363, 430, 495, 73), (431, 453, 495, 73), (454, 494, 495, 73)]]) gcL_build_L_act_h (goodIn_app (goodIn_app (goodIn_app (goodIn_app (goodIn_app (goodIn_app (goodIn_app (goodIn_app (goodIn_app gcL_build_L_act_r1 (goodIn_app gcL_build_L_act_r2 (goodIn_app gcL_build_L_act_r3 (goodIn_app gcL_build_L_act_r4 (goodIn_app gcL_build_L_act_r5 (goodIn_app gcL_build_L_act_r6 (goodIn_app gcL_build_L_act_r7 (goodIn_app gcL_build_L_act_r8 (goodIn_app gcL_build_L_act_r9 (goodIn_app gcL_build_L_act_r10 gcL_build_L_act_r11)))))))))) gcL_build_L_act_wsX40) gcL_build_L_act_wsX30) gcL_build_L_act_wsX00) gcL_build_L_act_wsX20) gcL_build_L_act_wsX10) (goodIn_sub (big := wsL_build) (fun w h => gcL_build_L_act_m0 w h) (by decide +kernel))) (goodIn_sub (big := wsL_build) (fun w h => gcL_build_L_act_m1 w h) (by decide +kernel))) (goodIn_sub (big := wsL_build) (fun w h => gcL_build_L_act_m2 w h) (by decide +kernel)))
set_option maxRecDepth 20000 in
theorem gL_build_L_act : GoodIn wsL_build (va_wsS RL 80 yL_act wsL_act) := goodIn_app (goodIn_of _ (by decide +kernel)) ggL_build_L_act
theorem dL_build_0 : decode cL_build 0 = .ok (.new 16, 3) := by decide +kernel
theorem dL_build_3 : decode cL_build 3 = .ok (.dup, 1) := by decide +kernel
theorem dL_build_4 : decode cL_build 4 = .ok (.invokespecial 75, 3) := by decide +kernel
theorem dL_build_7 : decode cL_build 7 = .ok (.astore_n 2, 1) := by decide +kernel
theorem dL_build_8 : decode cL_build 8 = .ok (.bipush 6, 2) := by decide +kernel
theorem dL_build_10 : decode cL_build 10 = .ok (.aload_n 1, 1) := by decide +kernel
theorem dL_build_11 : decode cL_build 11 = .ok (.iconst 0, 1) := by decide +kernel
theorem dL_build_12 : decode cL_build 12 = .ok (.invokestatic 76, 3) := by decide +kernel
theorem dL_build_15 : decode cL_build 15 = .ok (.bipush 24, 2) := by decide +kernel
theorem dL_build_17 : decode cL_build 17 = .ok (.invokestatic 9, 3) := by decide +kernel
theorem dL_build_20 : decode cL_build 20 = .ok (.iadd, 1) := by decide +kernel
theorem dL_build_21 : decode cL_build 21 = .ok (.istore_n 3, 1) := by decide +kernel
theorem dL_build_22 : decode cL_build 22 = .ok (.iconst 0, 1) := by decide +kernel
theorem dL_build_23 : decode cL_build 23 = .ok (.istore 4, 2) := by decide +kernel
theorem dL_build_25 : decode cL_build 25 = .ok (.iload 4, 2) := by decide +kernel
theorem dL_build_27 : decode cL_build 27 = .ok (.iload_n 3, 1) := by decide +kernel
theorem dL_build_28 : decode cL_build 28 = .ok (.if_icmp .ge 79, 3) := by decide +kernel
theorem dL_build_31 : decode cL_build 31 = .ok (.aload_n 1, 1) := by decide +kernel
theorem dL_build_32 : decode cL_build 32 = .ok (.iconst 1, 1) := by decide +kernel
theorem dL_build_33 : decode cL_build 33 = .ok (.iload 4, 2) := by decide +kernel
theorem dL_build_35 : decode cL_build 35 = .ok (.bipush 15, 2) := by decide +kernel
theorem dL_build_37 : decode cL_build 37 = .ok (.irem, 1) := by decide +kernel
theorem dL_build_38 : decode cL_build 38 = .ok (.iadd, 1) := by decide +kernel
theorem dL_build_39 : decode cL_build 39 = .ok (.invokestatic 76, 3) := by decide +kernel
theorem dL_build_42 : decode cL_build 42 = .ok (.iload 4, 2) := by decide +kernel
theorem dL_build_44 : decode cL_build 44 = .ok (.bipush 15, 2) := by decide +kernel
theorem dL_build_46 : decode cL_build 46 = .ok (.idiv, 1) := by decide +kernel
theorem dL_build_47 : decode cL_build 47 = .ok (.iconst 3, 1) := by decide +kernel
theorem dL_build_48 : decode cL_build 48 = .ok (.imul, 1) := by decide +kernel
theorem dL_build_49 : decode cL_build 49 = .ok (.ishr, 1) := by decide +kernel
theorem dL_build_50 : decode cL_build 50 = .ok (.bipush 37, 2) := by decide +kernel
theorem dL_build_52 : decode cL_build 52 = .ok (.iload 4, 2) := by decide +kernel
theorem dL_build_54 : decode cL_build 54 = .ok (.imul, 1) := by decide +kernel
theorem dL_build_55 : decode cL_build 55 = .ok (.iadd, 1) := by decide +kernel
theorem dL_build_56 : decode cL_build 56 = .ok (.istore 5, 2) := by decide +kernel
theorem dL_build_58 : decode cL_build 58 = .ok (.aload_n 0, 1) := by decide +kernel
theorem dL_build_59 : decode cL_build 59 = .ok (.aload_n 2, 1) := by decide +kernel
theorem dL_build_60 : decode cL_build 60 = .ok (.iload 4, 2) := by decide +kernel
theorem dL_build_62 : decode cL_build 62 = .ok (.iconst 4, 1) := by decide +kernel
theorem dL_build_63 : decode cL_build 63 = .ok (.irem, 1) := by decide +kernel
theorem dL_build_64 : decode cL_build 64 = .ok (.iconst 3, 1) := by decide +kernel
theorem dL_build_65 : decode cL_build 65 = .ok (.if_icmp .ge 26, 3) := by decide +kernel
theorem dL_build_68 : decode cL_build 68 = .ok (.iload 5, 2) := by decide +kernel
theorem dL_build_70 : decode cL_build 70 = .ok (.iload 5, 2) := by decide +kernel
theorem dL_build_72 : decode cL_build 72 = .ok (.bipush 14, 2) := by decide +kernel
theorem dL_build_74 : decode cL_build 74 = .ok (.invokestatic 9, 3) := by decide +kernel
theorem dL_build_77 : decode cL_build 77 = .ok (.isub, 1) := by decide +kernel
theorem dL_build_78 : decode cL_build 78 = .ok (.iload 5, 2) := by decide +kernel
theorem dL_build_80 : decode cL_build 80 = .ok (.iconst 5, 1) := by decide +kernel
theorem dL_build_81 : decode cL_build 81 = .ok (.ishr, 1) := by decide +kernel
theorem dL_build_82 : decode cL_build 82 = .ok (.bipush 7, 2) := by decide +kernel
theorem dL_build_84 : decode cL_build 84 = .ok (.invokestatic 9, 3) := by decide +kernel
theorem dL_build_87 : decode cL_build 87 = .ok (.iadd, 1) := by decide +kernel
theorem dL_build_88 : decode cL_build 88 = .ok (.goto 5, 3) := by decide +kernel
theorem dL_build_91 : decode cL_build 91 = .ok (.iload 5, 2) := by decide +kernel
theorem dL_build_93 : decode cL_build 93 = .ok (.invokestatic 80, 3) := by decide +kernel
theorem dL_build_96 : decode cL_build 96 = .ok (.ifCond .ne 5, 3) := by decide +kernel
theorem dL_build_99 : decode cL_build 99 = .ok (.aconst_null, 1) := by decide +kernel
theorem dL_build_100 : decode cL_build 100 = .ok (.areturn, 1) := by decide +kernel
theorem dL_build_101 : decode cL_build 101 = .ok (.iinc 4 1, 3) := by decide +kernel
theorem dL_build_104 : decode cL_build 104 = .ok (.goto (-79), 3) := by decide +kernel
theorem dL_build_107 : decode cL_build 107 = .ok (.aload_n 2, 1) := by decide +kernel
theorem dL_build_108 : decode cL_build 108 = .ok (.areturn, 1) := by decide +kernel
