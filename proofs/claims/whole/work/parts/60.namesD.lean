theorem wsL_law_x0 : ∀ w ∈ (vx_atS RX2 36 "java/lang/IllegalStateException" ["java/lang/RuntimeException", "java/lang/Exception"]).filter goodWord, w ∈ lw_tbl := by decide +kernel
theorem wsL_law_x1 : ∀ w ∈ (vx_atS RX2 129 "java/lang/IndexOutOfBoundsException" ["java/lang/RuntimeException", "java/lang/Exception"]).filter goodWord, w ∈ lw_tbl := by decide +kernel
theorem wsL_law_x2 : ∀ w ∈ (vx_atS RX2 212 "java/lang/IllegalArgumentException" ["java/lang/RuntimeException", "java/lang/Exception"]).filter goodWord, w ∈ lw_tbl := by decide +kernel
theorem wsL_law_in : ∀ w ∈ wsL_law, w ∈ lw_tbl := fun w h => (List.mem_append.mp h).elim (fun h => (List.mem_append.mp h).elim (fun h => (List.mem_append.mp h).elim (fun h => wsL_law_in0 w h) (fun h => wsL_law_x0 w h)) (fun h => wsL_law_x1 w h)) (fun h => wsL_law_x2 w h)
theorem inlX0 : ∀ w ∈ wsX00, w ∈ wsL_law := fun _ h => List.mem_append_left _ (List.mem_append_left _ (List.mem_append_left _ (List.mem_append_left _ (List.mem_append_right _ h))))
theorem inX0 : ∀ w ∈ wsX00, w ∈ lw_tbl := fun w h => wsL_law_in w (inlX0 w h)
theorem inlX1 : ∀ w ∈ wsX10, w ∈ wsL_law := fun _ h => List.mem_append_left _ (List.mem_append_left _ (List.mem_append_left _ (List.mem_append_left _ (List.mem_append_left _ (List.mem_append_right _ h)))))
theorem inX1 : ∀ w ∈ wsX10, w ∈ lw_tbl := fun w h => wsL_law_in w (inlX1 w h)
theorem inlX2 : ∀ w ∈ wsX20, w ∈ wsL_law := fun _ h => List.mem_append_left _ (List.mem_append_left _ (List.mem_append_left _ (List.mem_append_left _ (List.mem_append_left _ (List.mem_append_left _ (List.mem_append_left _ (List.mem_append_right _ h)))))))
theorem inX2 : ∀ w ∈ wsX20, w ∈ lw_tbl := fun w h => wsL_law_in w (inlX2 w h)
theorem inlX3 : ∀ w ∈ wsX30, w ∈ wsL_law := fun _ h => List.mem_append_left _ (List.mem_append_left _ (List.mem_append_left _ (List.mem_append_left _ (List.mem_append_left _ (List.mem_append_left _ (List.mem_append_right _ h))))))
theorem inX3 : ∀ w ∈ wsX30, w ∈ lw_tbl := fun w h => wsL_law_in w (inlX3 w h)
set_option maxRecDepth 20000 in
theorem ggL_plant_X2_plant : GoodIn wsL_plant wsX2_plant := goodIn_ca (goodIn_ca (goodIn_ca (goodIn_r _ [8, 9, 10, 11, 12, 13, 14, 15, 16, 7, 17, 18, 19, 20, 21, 22, 23, 24, 25, 26, 27, 28, 29, 30, 31, 32, 33, 34, 35, 36, 37, 38, 39, 40, 41, 42, 43, 44, 45, 46, 47, 48, 49, 50, 51, 52, 53, 54, 55, 56, 57, 58, 59, 60, 61, 62, 63, 64, 65, 66, 67, 68, 69, 70, 71, 72, 73, 74, 75, 76, 77, 78, 79, 80, 81, 82, 83, 84, 85, 86, 87, 88, 89, 90, 91, 92, 93, 94, 95, 96, 97, 98, 99, 100, 101, 102, 103, 104, 105, 106, 107, 108, 109, 110, 111, 112, 113, 114, 115, 116, 117, 118, 119, 120, 121, 122, 123, 124, 125, 126] (by decide +kernel) (by decide +kernel)) (goodIn_sub (fun _ h => List.mem_cons_of_mem _ (List.mem_append_left _ (List.mem_append_left _ (List.mem_append_right _ h)))) (by decide +kernel))) (goodIn_sub (fun _ h => List.mem_cons_of_mem _ (List.mem_append_left _ (List.mem_append_right _ h))) (by decide +kernel))) (goodIn_sub (fun _ h => List.mem_cons_of_mem _ (List.mem_append_right _ h)) (by decide +kernel))
set_option maxRecDepth 20000 in
theorem gL_plant_X2_plant : GoodIn wsL_plant (wsV RL 7 RX2 yX2_plant wsX2_plant) := goodIn_app (goodIn_of _ (by decide +kernel)) ggL_plant_X2_plant
theorem dL_plant_0 : decode cL_plant 0 = .ok (.aload_n 3, 1) := by decide +kernel
theorem dL_plant_1 : decode cL_plant 1 = .ok (.iconst 0, 1) := by decide +kernel
theorem dL_plant_2 : decode cL_plant 2 = .ok (.aload_n 0, 1) := by decide +kernel
theorem dL_plant_3 : decode cL_plant 3 = .ok (.iload_n 1, 1) := by decide +kernel
theorem dL_plant_4 : decode cL_plant 4 = .ok (.iload_n 2, 1) := by decide +kernel
theorem dL_plant_5 : decode cL_plant 5 = .ok (.invokevirtual 7, 3) := by decide +kernel
theorem dL_plant_8 : decode cL_plant 8 = .ok (.i2l, 1) := by decide +kernel
theorem dL_plant_9 : decode cL_plant 9 = .ok (.lastore, 1) := by decide +kernel
theorem dL_plant_10 : decode cL_plant 10 = .ok (.goto 15, 3) := by decide +kernel
theorem dL_plant_13 : decode cL_plant 13 = .ok (.astore 4, 2) := by decide +kernel
theorem dL_plant_15 : decode cL_plant 15 = .ok (.iconst 1, 1) := by decide +kernel
theorem dL_plant_16 : decode cL_plant 16 = .ok (.ireturn, 1) := by decide +kernel
theorem dL_plant_17 : decode cL_plant 17 = .ok (.astore 4, 2) := by decide +kernel
theorem dL_plant_19 : decode cL_plant 19 = .ok (.iconst 2, 1) := by decide +kernel
theorem dL_plant_20 : decode cL_plant 20 = .ok (.ireturn, 1) := by decide +kernel
theorem dL_plant_21 : decode cL_plant 21 = .ok (.astore 4, 2) := by decide +kernel
theorem dL_plant_23 : decode cL_plant 23 = .ok (.iconst 3, 1) := by decide +kernel
theorem dL_plant_24 : decode cL_plant 24 = .ok (.ireturn, 1) := by decide +kernel
theorem dL_plant_25 : decode cL_plant 25 = .ok (.iconst 0, 1) := by decide +kernel
theorem dL_plant_26 : decode cL_plant 26 = .ok (.ireturn, 1) := by decide +kernel
set_option maxRecDepth 20000 in
theorem ggL_eat_X2_eat : GoodIn wsL_eat wsX2_eat := goodIn_ca (goodIn_ca (goodIn_r _ [7, 8, 9, 10, 11, 6, 12, 13, 14, 15, 16, 17, 18, 19, 20, 21, 22, 23, 24, 25, 26, 27, 28, 29, 30, 31, 32, 33, 34, 35, 36, 37, 38, 39, 40, 41, 42, 43, 44, 45, 46, 47, 48, 49, 50, 51, 52, 53, 54, 55, 56, 57, 58, 59, 60, 61, 62, 63, 64, 65, 66, 67, 68, 69, 70, 71, 72, 73, 74, 75, 76, 77, 78, 79, 80, 81] (by decide +kernel) (by decide +kernel)) (goodIn_sub (fun _ h => List.mem_cons_of_mem _ (List.mem_append_left _ (List.mem_append_right _ h))) (by decide +kernel))) (goodIn_sub (fun _ h => List.mem_cons_of_mem _ (List.mem_append_right _ h)) (by decide +kernel))
set_option maxRecDepth 20000 in
theorem gL_eat_X2_eat : GoodIn wsL_eat (wsV RL 19 RX2 yX2_eat wsX2_eat) := goodIn_app (goodIn_of _ (by decide +kernel)) ggL_eat_X2_eat
theorem dL_eat_0 : decode cL_eat 0 = .ok (.aload_n 3, 1) := by decide +kernel
theorem dL_eat_1 : decode cL_eat 1 = .ok (.iconst 0, 1) := by decide +kernel
theorem dL_eat_2 : decode cL_eat 2 = .ok (.aload_n 0, 1) := by decide +kernel
theorem dL_eat_3 : decode cL_eat 3 = .ok (.iload_n 1, 1) := by decide +kernel
theorem dL_eat_4 : decode cL_eat 4 = .ok (.iload_n 2, 1) := by decide +kernel
theorem dL_eat_5 : decode cL_eat 5 = .ok (.invokevirtual 19, 3) := by decide +kernel
theorem dL_eat_8 : decode cL_eat 8 = .ok (.i2l, 1) := by decide +kernel
theorem dL_eat_9 : decode cL_eat 9 = .ok (.lastore, 1) := by decide +kernel
theorem dL_eat_10 : decode cL_eat 10 = .ok (.goto 11, 3) := by decide +kernel
theorem dL_eat_13 : decode cL_eat 13 = .ok (.astore 4, 2) := by decide +kernel
theorem dL_eat_15 : decode cL_eat 15 = .ok (.iconst 1, 1) := by decide +kernel
theorem dL_eat_16 : decode cL_eat 16 = .ok (.ireturn, 1) := by decide +kernel
theorem dL_eat_17 : decode cL_eat 17 = .ok (.astore 4, 2) := by decide +kernel
theorem dL_eat_19 : decode cL_eat 19 = .ok (.iconst 2, 1) := by decide +kernel
theorem dL_eat_20 : decode cL_eat 20 = .ok (.ireturn, 1) := by decide +kernel
theorem dL_eat_21 : decode cL_eat 21 = .ok (.iconst 0, 1) := by decide +kernel
theorem dL_eat_22 : decode cL_eat 22 = .ok (.ireturn, 1) := by decide +kernel
set_option maxRecDepth 20000 in
theorem ggL_pick_X2_pick : GoodIn wsL_pick wsX2_pick := goodIn_ca (goodIn_ca (goodIn_r _ [7, 8, 9, 10, 11, 12, 13, 6, 14, 15, 16, 17, 18, 19, 20, 21, 22, 23, 24, 25, 26, 27, 28, 29, 30, 31, 32, 33, 34, 35, 36, 37, 38, 39, 40, 41, 42, 43, 44, 45, 46, 47, 48, 49, 50, 51, 52, 53, 54, 55, 56, 57, 58, 59, 60, 61, 62, 63, 64, 65, 66, 67, 68, 69, 70, 71, 72, 73, 74, 75, 76, 77, 78, 79, 80, 81, 82, 83, 84, 85, 86, 87, 88, 89, 90, 91, 92, 93, 94, 95, 96, 97, 98, 99, 100] (by decide +kernel) (by decide +kernel)) (goodIn_sub (fun _ h => List.mem_cons_of_mem _ (List.mem_append_left _ (List.mem_append_right _ h))) (by decide +kernel))) (goodIn_sub (fun _ h => List.mem_cons_of_mem _ (List.mem_append_right _ h)) (by decide +kernel))
set_option maxRecDepth 20000 in
theorem gL_pick_X2_pick : GoodIn wsL_pick (wsV RL 22 RX2 yX2_pick wsX2_pick) := goodIn_app (goodIn_of _ (by decide +kernel)) ggL_pick_X2_pick
theorem dL_pick_0 : decode cL_pick 0 = .ok (.aload_n 3, 1) := by decide +kernel
theorem dL_pick_1 : decode cL_pick 1 = .ok (.iconst 0, 1) := by decide +kernel
theorem dL_pick_2 : decode cL_pick 2 = .ok (.aload_n 0, 1) := by decide +kernel
theorem dL_pick_3 : decode cL_pick 3 = .ok (.iload_n 1, 1) := by decide +kernel
theorem dL_pick_4 : decode cL_pick 4 = .ok (.iload_n 2, 1) := by decide +kernel
theorem dL_pick_5 : decode cL_pick 5 = .ok (.invokevirtual 22, 3) := by decide +kernel
theorem dL_pick_8 : decode cL_pick 8 = .ok (.i2l, 1) := by decide +kernel
theorem dL_pick_9 : decode cL_pick 9 = .ok (.lastore, 1) := by decide +kernel
theorem dL_pick_10 : decode cL_pick 10 = .ok (.goto 11, 3) := by decide +kernel
theorem dL_pick_13 : decode cL_pick 13 = .ok (.astore 4, 2) := by decide +kernel
theorem dL_pick_15 : decode cL_pick 15 = .ok (.iconst 1, 1) := by decide +kernel
theorem dL_pick_16 : decode cL_pick 16 = .ok (.ireturn, 1) := by decide +kernel
theorem dL_pick_17 : decode cL_pick 17 = .ok (.astore 4, 2) := by decide +kernel
theorem dL_pick_19 : decode cL_pick 19 = .ok (.iconst 2, 1) := by decide +kernel
theorem dL_pick_20 : decode cL_pick 20 = .ok (.ireturn, 1) := by decide +kernel
theorem dL_pick_21 : decode cL_pick 21 = .ok (.iconst 0, 1) := by decide +kernel
theorem dL_pick_22 : decode cL_pick 22 = .ok (.ireturn, 1) := by decide +kernel
set_option maxRecDepth 20000 in
theorem ggL_split_X2_split : GoodIn wsL_split wsX2_split := goodIn_ca (goodIn_ca (goodIn_ca (goodIn_r _ [8, 9, 10, 11, 12, 13, 14, 15, 7, 16, 17, 18, 19, 20, 21, 22, 23, 24, 25, 26, 27, 28, 29, 30, 31, 32, 33, 34, 35, 36, 37, 38, 39, 40, 41, 42, 43, 44, 45, 46, 47, 48, 49, 50, 51, 52, 53, 54, 55, 56, 57, 58, 59, 60, 61, 62, 63, 64, 65, 66, 67, 68, 69, 70, 71, 72, 73, 74, 75, 76, 77, 78, 79, 80, 81, 82, 83, 84, 85, 86, 87, 88, 89, 90, 91, 92, 93, 94, 95, 96, 97, 98, 99, 100, 101, 102, 103, 104, 105, 106, 107] (by decide +kernel) (by decide +kernel)) (goodIn_sub (fun _ h => List.mem_cons_of_mem _ (List.mem_append_left _ (List.mem_append_left _ (List.mem_append_right _ h)))) (by decide +kernel))) (goodIn_sub (fun _ h => List.mem_cons_of_mem _ (List.mem_append_left _ (List.mem_append_right _ h))) (by decide +kernel))) (goodIn_sub (fun _ h => List.mem_cons_of_mem _ (List.mem_append_right _ h)) (by decide +kernel))
set_option maxRecDepth 20000 in
theorem gL_split_X2_split : GoodIn wsL_split (wsV RL 25 RX2 yX2_split wsX2_split) := goodIn_app (goodIn_of _ (by decide +kernel)) ggL_split_X2_split
theorem dL_split_0 : decode cL_split 0 = .ok (.aload 4, 2) := by decide +kernel
theorem dL_split_2 : decode cL_split 2 = .ok (.iconst 0, 1) := by decide +kernel
theorem dL_split_3 : decode cL_split 3 = .ok (.aload_n 0, 1) := by decide +kernel
theorem dL_split_4 : decode cL_split 4 = .ok (.iload_n 1, 1) := by decide +kernel
theorem dL_split_5 : decode cL_split 5 = .ok (.iload_n 2, 1) := by decide +kernel
theorem dL_split_6 : decode cL_split 6 = .ok (.iload_n 3, 1) := by decide +kernel
theorem dL_split_7 : decode cL_split 7 = .ok (.invokevirtual 25, 3) := by decide +kernel
theorem dL_split_10 : decode cL_split 10 = .ok (.i2l, 1) := by decide +kernel
theorem dL_split_11 : decode cL_split 11 = .ok (.lastore, 1) := by decide +kernel
theorem dL_split_12 : decode cL_split 12 = .ok (.goto 15, 3) := by decide +kernel
theorem dL_split_15 : decode cL_split 15 = .ok (.astore 5, 2) := by decide +kernel
theorem dL_split_17 : decode cL_split 17 = .ok (.iconst 1, 1) := by decide +kernel
theorem dL_split_18 : decode cL_split 18 = .ok (.ireturn, 1) := by decide +kernel
theorem dL_split_19 : decode cL_split 19 = .ok (.astore 5, 2) := by decide +kernel
theorem dL_split_21 : decode cL_split 21 = .ok (.iconst 2, 1) := by decide +kernel
theorem dL_split_22 : decode cL_split 22 = .ok (.ireturn, 1) := by decide +kernel
theorem dL_split_23 : decode cL_split 23 = .ok (.astore 5, 2) := by decide +kernel
theorem dL_split_25 : decode cL_split 25 = .ok (.iconst 3, 1) := by decide +kernel
theorem dL_split_26 : decode cL_split 26 = .ok (.ireturn, 1) := by decide +kernel
theorem dL_split_27 : decode cL_split 27 = .ok (.iconst 0, 1) := by decide +kernel
theorem dL_split_28 : decode cL_split 28 = .ok (.ireturn, 1) := by decide +kernel
set_option maxRecDepth 20000 in
theorem ggL_join_X2_join : GoodIn wsL_join wsX2_join := goodIn_ca (goodIn_ca (goodIn_r _ [7, 8, 9, 10, 11, 12, 13, 6, 14, 15, 16, 17, 18, 19, 20, 21, 22, 23, 24, 25, 26, 27, 28, 29, 30, 31, 32, 33, 34, 35, 36, 37, 38, 39, 40, 41, 42, 43, 44, 45, 46, 47, 48, 49, 50, 51, 52, 53, 54, 55, 56, 57, 58, 59, 60, 61, 62, 63, 64, 65, 66, 67, 68, 69, 70, 71, 72, 73, 74, 75, 76, 77, 78, 79, 80, 81, 82, 83, 84, 85, 86, 87, 88, 89, 90, 91, 92, 93, 94, 95, 96, 97, 98, 99, 100, 101, 102, 103, 104, 105, 106, 107] (by decide +kernel) (by decide +kernel)) (goodIn_sub (fun _ h => List.mem_cons_of_mem _ (List.mem_append_left _ (List.mem_append_right _ h))) (by decide +kernel))) (goodIn_sub (fun _ h => List.mem_cons_of_mem _ (List.mem_append_right _ h)) (by decide +kernel))
set_option maxRecDepth 20000 in
theorem gL_join_X2_join : GoodIn wsL_join (wsV RL 29 RX2 yX2_join wsX2_join) := goodIn_app (goodIn_of _ (by decide +kernel)) ggL_join_X2_join
theorem dL_join_0 : decode cL_join 0 = .ok (.aload_n 3, 1) := by decide +kernel
theorem dL_join_1 : decode cL_join 1 = .ok (.iconst 0, 1) := by decide +kernel
theorem dL_join_2 : decode cL_join 2 = .ok (.aload_n 0, 1) := by decide +kernel
theorem dL_join_3 : decode cL_join 3 = .ok (.iload_n 1, 1) := by decide +kernel
theorem dL_join_4 : decode cL_join 4 = .ok (.iload_n 2, 1) := by decide +kernel
theorem dL_join_5 : decode cL_join 5 = .ok (.invokevirtual 29, 3) := by decide +kernel
theorem dL_join_8 : decode cL_join 8 = .ok (.i2l, 1) := by decide +kernel
theorem dL_join_9 : decode cL_join 9 = .ok (.lastore, 1) := by decide +kernel
theorem dL_join_10 : decode cL_join 10 = .ok (.goto 11, 3) := by decide +kernel
theorem dL_join_13 : decode cL_join 13 = .ok (.astore 4, 2) := by decide +kernel
theorem dL_join_15 : decode cL_join 15 = .ok (.iconst 1, 1) := by decide +kernel
theorem dL_join_16 : decode cL_join 16 = .ok (.ireturn, 1) := by decide +kernel
theorem dL_join_17 : decode cL_join 17 = .ok (.astore 4, 2) := by decide +kernel
theorem dL_join_19 : decode cL_join 19 = .ok (.iconst 2, 1) := by decide +kernel
theorem dL_join_20 : decode cL_join 20 = .ok (.ireturn, 1) := by decide +kernel
theorem dL_join_21 : decode cL_join 21 = .ok (.iconst 0, 1) := by decide +kernel
theorem dL_join_22 : decode cL_join 22 = .ok (.ireturn, 1) := by decide +kernel
set_option maxRecDepth 20000 in
theorem ggL_sizeOf_X2_sizeOf : GoodIn wsL_sizeOf wsX2_sizeOf := goodIn_ca (goodIn_r _ [6, 7, 8, 9, 5, 10, 11, 12, 13, 14, 15, 16, 17, 18, 19, 20, 21, 22, 23, 24, 25, 26, 27, 28, 29, 30, 31, 32, 33, 34, 35, 36, 37, 38, 39, 40, 41, 42, 43, 44, 45, 46, 47, 48, 49] (by decide +kernel) (by decide +kernel)) (goodIn_sub (fun _ h => List.mem_cons_of_mem _ (List.mem_append_right _ h)) (by decide +kernel))
set_option maxRecDepth 20000 in
theorem gL_sizeOf_X2_sizeOf : GoodIn wsL_sizeOf (wsV RL 32 RX2 yX2_sizeOf wsX2_sizeOf) := goodIn_app (goodIn_of _ (by decide +kernel)) ggL_sizeOf_X2_sizeOf
theorem dL_sizeOf_0 : decode cL_sizeOf 0 = .ok (.aload_n 2, 1) := by decide +kernel
theorem dL_sizeOf_1 : decode cL_sizeOf 1 = .ok (.iconst 0, 1) := by decide +kernel
theorem dL_sizeOf_2 : decode cL_sizeOf 2 = .ok (.aload_n 0, 1) := by decide +kernel
theorem dL_sizeOf_3 : decode cL_sizeOf 3 = .ok (.iload_n 1, 1) := by decide +kernel
theorem dL_sizeOf_4 : decode cL_sizeOf 4 = .ok (.invokevirtual 32, 3) := by decide +kernel
theorem dL_sizeOf_7 : decode cL_sizeOf 7 = .ok (.i2l, 1) := by decide +kernel
theorem dL_sizeOf_8 : decode cL_sizeOf 8 = .ok (.lastore, 1) := by decide +kernel
theorem dL_sizeOf_9 : decode cL_sizeOf 9 = .ok (.goto 6, 3) := by decide +kernel
theorem dL_sizeOf_12 : decode cL_sizeOf 12 = .ok (.astore_n 3, 1) := by decide +kernel
theorem dL_sizeOf_13 : decode cL_sizeOf 13 = .ok (.iconst 1, 1) := by decide +kernel
theorem dL_sizeOf_14 : decode cL_sizeOf 14 = .ok (.ireturn, 1) := by decide +kernel
theorem dL_sizeOf_15 : decode cL_sizeOf 15 = .ok (.iconst 0, 1) := by decide +kernel
theorem dL_sizeOf_16 : decode cL_sizeOf 16 = .ok (.ireturn, 1) := by decide +kernel
set_option maxRecDepth 20000 in
theorem ggL_top_X2_top : GoodIn wsL_top wsX2_top := goodIn_ca (goodIn_r _ [6, 7, 8, 9, 10, 5, 11, 12, 13, 14, 15, 16, 17, 18, 19, 20, 21, 22, 23, 24, 25, 26, 27, 28] (by decide +kernel) (by decide +kernel)) (goodIn_sub (fun _ h => List.mem_cons_of_mem _ (List.mem_append_right _ h)) (by decide +kernel))
set_option maxRecDepth 20000 in
theorem gL_top_X2_top : GoodIn wsL_top (wsV RL 36 RX2 yX2_top wsX2_top) := goodIn_app (goodIn_of _ (by decide +kernel)) ggL_top_X2_top
theorem dL_top_0 : decode cL_top 0 = .ok (.aload_n 2, 1) := by decide +kernel
theorem dL_top_1 : decode cL_top 1 = .ok (.iconst 0, 1) := by decide +kernel
theorem dL_top_2 : decode cL_top 2 = .ok (.aload_n 0, 1) := by decide +kernel
theorem dL_top_3 : decode cL_top 3 = .ok (.iload_n 1, 1) := by decide +kernel
theorem dL_top_4 : decode cL_top 4 = .ok (.invokevirtual 36, 3) := by decide +kernel
theorem dL_top_7 : decode cL_top 7 = .ok (.i2l, 1) := by decide +kernel
theorem dL_top_8 : decode cL_top 8 = .ok (.lastore, 1) := by decide +kernel
theorem dL_top_9 : decode cL_top 9 = .ok (.goto 6, 3) := by decide +kernel
theorem dL_top_12 : decode cL_top 12 = .ok (.astore_n 3, 1) := by decide +kernel
theorem dL_top_13 : decode cL_top 13 = .ok (.iconst 1, 1) := by decide +kernel
theorem dL_top_14 : decode cL_top 14 = .ok (.ireturn, 1) := by decide +kernel
theorem dL_top_15 : decode cL_top 15 = .ok (.iconst 0, 1) := by decide +kernel
theorem dL_top_16 : decode cL_top 16 = .ok (.ireturn, 1) := by decide +kernel
set_option maxRecDepth 20000 in
theorem ggL_height_X2_height : GoodIn wsL_height wsX2_height := goodIn_ca (goodIn_r _ [6, 7, 8, 9, 5, 10, 11, 12, 13, 14, 15, 16, 17, 18, 19, 20, 21, 22, 23, 24, 25, 26, 27, 28, 29, 30, 31, 32, 33, 34, 35, 36, 37, 38, 39, 40, 41, 42, 43, 44, 45, 46, 47, 48, 49, 50, 51, 52, 53, 54] (by decide +kernel) (by decide +kernel)) (goodIn_sub (fun _ h => List.mem_cons_of_mem _ (List.mem_append_right _ h)) (by decide +kernel))
set_option maxRecDepth 20000 in
theorem gL_height_X2_height : GoodIn wsL_height (wsV RL 39 RX2 yX2_height wsX2_height) := goodIn_app (goodIn_of _ (by decide +kernel)) ggL_height_X2_height
theorem dL_height_0 : decode cL_height 0 = .ok (.aload_n 2, 1) := by decide +kernel
theorem dL_height_1 : decode cL_height 1 = .ok (.iconst 0, 1) := by decide +kernel
theorem dL_height_2 : decode cL_height 2 = .ok (.aload_n 0, 1) := by decide +kernel
theorem dL_height_3 : decode cL_height 3 = .ok (.iload_n 1, 1) := by decide +kernel
theorem dL_height_4 : decode cL_height 4 = .ok (.invokevirtual 39, 3) := by decide +kernel
theorem dL_height_7 : decode cL_height 7 = .ok (.i2l, 1) := by decide +kernel
theorem dL_height_8 : decode cL_height 8 = .ok (.lastore, 1) := by decide +kernel
theorem dL_height_9 : decode cL_height 9 = .ok (.goto 6, 3) := by decide +kernel
theorem dL_height_12 : decode cL_height 12 = .ok (.astore_n 3, 1) := by decide +kernel
theorem dL_height_13 : decode cL_height 13 = .ok (.iconst 1, 1) := by decide +kernel
theorem dL_height_14 : decode cL_height 14 = .ok (.ireturn, 1) := by decide +kernel
theorem dL_height_15 : decode cL_height 15 = .ok (.iconst 0, 1) := by decide +kernel
theorem dL_height_16 : decode cL_height 16 = .ok (.ireturn, 1) := by decide +kernel
set_option maxRecDepth 20000 in
theorem ggL_leastHeight_X2_leastHeight : GoodIn wsL_leastHeight wsX2_leastHeight := goodIn_ca (goodIn_r _ [6, 7, 8, 9, 5, 10, 11, 12, 13, 14, 15, 16, 17, 18, 19, 20, 21, 22, 23, 24, 25, 26, 27, 28, 29, 30, 31, 32, 33, 34, 35, 36, 37, 38, 39, 40, 41, 42, 43, 44, 45, 46, 47, 48, 49] (by decide +kernel) (by decide +kernel)) (goodIn_sub (fun _ h => List.mem_cons_of_mem _ (List.mem_append_right _ h)) (by decide +kernel))
set_option maxRecDepth 20000 in
theorem gL_leastHeight_X2_leastHeight : GoodIn wsL_leastHeight (wsV RL 42 RX2 yX2_leastHeight wsX2_leastHeight) := goodIn_app (goodIn_of _ (by decide +kernel)) ggL_leastHeight_X2_leastHeight
theorem dL_leastHeight_0 : decode cL_leastHeight 0 = .ok (.aload_n 2, 1) := by decide +kernel
theorem dL_leastHeight_1 : decode cL_leastHeight 1 = .ok (.iconst 0, 1) := by decide +kernel
theorem dL_leastHeight_2 : decode cL_leastHeight 2 = .ok (.aload_n 0, 1) := by decide +kernel
theorem dL_leastHeight_3 : decode cL_leastHeight 3 = .ok (.iload_n 1, 1) := by decide +kernel
theorem dL_leastHeight_4 : decode cL_leastHeight 4 = .ok (.invokevirtual 42, 3) := by decide +kernel
theorem dL_leastHeight_7 : decode cL_leastHeight 7 = .ok (.i2l, 1) := by decide +kernel
theorem dL_leastHeight_8 : decode cL_leastHeight 8 = .ok (.lastore, 1) := by decide +kernel
theorem dL_leastHeight_9 : decode cL_leastHeight 9 = .ok (.goto 6, 3) := by decide +kernel
theorem dL_leastHeight_12 : decode cL_leastHeight 12 = .ok (.astore_n 3, 1) := by decide +kernel
theorem dL_leastHeight_13 : decode cL_leastHeight 13 = .ok (.iconst 1, 1) := by decide +kernel
theorem dL_leastHeight_14 : decode cL_leastHeight 14 = .ok (.ireturn, 1) := by decide +kernel
theorem dL_leastHeight_15 : decode cL_leastHeight 15 = .ok (.iconst 0, 1) := by decide +kernel
theorem dL_leastHeight_16 : decode cL_leastHeight 16 = .ok (.ireturn, 1) := by decide +kernel
set_option maxRecDepth 20000 in
theorem ggL_depths_X2_depths : GoodIn wsL_depths wsX2_depths := goodIn_ca (goodIn_r _ [6, 7, 8, 9, 5, 10, 11, 12, 13, 14, 15, 16, 17, 18, 19, 20, 21, 22, 23, 24, 25, 26, 27, 28, 29, 30, 31, 32, 33, 34, 35, 36, 37, 38, 39, 40, 41, 42, 43, 44, 45, 46, 47, 48, 49, 50] (by decide +kernel) (by decide +kernel)) (goodIn_sub (fun _ h => List.mem_cons_of_mem _ (List.mem_append_right _ h)) (by decide +kernel))
set_option maxRecDepth 20000 in
theorem gL_depths_X2_depths : GoodIn wsL_depths (wsV RL 45 RX2 yX2_depths wsX2_depths) := goodIn_app (goodIn_of _ (by decide +kernel)) ggL_depths_X2_depths
theorem dL_depths_0 : decode cL_depths 0 = .ok (.aload_n 2, 1) := by decide +kernel
theorem dL_depths_1 : decode cL_depths 1 = .ok (.iconst 0, 1) := by decide +kernel
theorem dL_depths_2 : decode cL_depths 2 = .ok (.aload_n 0, 1) := by decide +kernel
theorem dL_depths_3 : decode cL_depths 3 = .ok (.iload_n 1, 1) := by decide +kernel
theorem dL_depths_4 : decode cL_depths 4 = .ok (.invokevirtual 45, 3) := by decide +kernel
theorem dL_depths_7 : decode cL_depths 7 = .ok (.i2l, 1) := by decide +kernel
theorem dL_depths_8 : decode cL_depths 8 = .ok (.lastore, 1) := by decide +kernel
theorem dL_depths_9 : decode cL_depths 9 = .ok (.goto 6, 3) := by decide +kernel
theorem dL_depths_12 : decode cL_depths 12 = .ok (.astore_n 3, 1) := by decide +kernel
theorem dL_depths_13 : decode cL_depths 13 = .ok (.iconst 1, 1) := by decide +kernel
theorem dL_depths_14 : decode cL_depths 14 = .ok (.ireturn, 1) := by decide +kernel
theorem dL_depths_15 : decode cL_depths 15 = .ok (.iconst 0, 1) := by decide +kernel
theorem dL_depths_16 : decode cL_depths 16 = .ok (.ireturn, 1) := by decide +kernel
set_option maxRecDepth 20000 in
theorem ggL_smallest_X2_smallest : GoodIn wsL_smallest wsX2_smallest := goodIn_ca (goodIn_r _ [6, 7, 8, 9, 5, 10, 11, 12, 13, 14, 15, 16, 17, 18, 19, 20, 21, 22, 23, 24, 25, 26, 27, 28, 29, 30, 31, 32, 33, 34, 35, 36, 37, 38, 39] (by decide +kernel) (by decide +kernel)) (goodIn_sub (fun _ h => List.mem_cons_of_mem _ (List.mem_append_right _ h)) (by decide +kernel))
set_option maxRecDepth 20000 in
theorem gL_smallest_X2_smallest : GoodIn wsL_smallest (wsV RL 48 RX2 yX2_smallest wsX2_smallest) := goodIn_app (goodIn_of _ (by decide +kernel)) ggL_smallest_X2_smallest
theorem dL_smallest_0 : decode cL_smallest 0 = .ok (.aload_n 2, 1) := by decide +kernel
theorem dL_smallest_1 : decode cL_smallest 1 = .ok (.iconst 0, 1) := by decide +kernel
theorem dL_smallest_2 : decode cL_smallest 2 = .ok (.aload_n 0, 1) := by decide +kernel
theorem dL_smallest_3 : decode cL_smallest 3 = .ok (.iload_n 1, 1) := by decide +kernel
theorem dL_smallest_4 : decode cL_smallest 4 = .ok (.invokevirtual 48, 3) := by decide +kernel
theorem dL_smallest_7 : decode cL_smallest 7 = .ok (.i2l, 1) := by decide +kernel
theorem dL_smallest_8 : decode cL_smallest 8 = .ok (.lastore, 1) := by decide +kernel
theorem dL_smallest_9 : decode cL_smallest 9 = .ok (.goto 6, 3) := by decide +kernel
theorem dL_smallest_12 : decode cL_smallest 12 = .ok (.astore_n 3, 1) := by decide +kernel
theorem dL_smallest_13 : decode cL_smallest 13 = .ok (.iconst 1, 1) := by decide +kernel
theorem dL_smallest_14 : decode cL_smallest 14 = .ok (.ireturn, 1) := by decide +kernel
theorem dL_smallest_15 : decode cL_smallest 15 = .ok (.iconst 0, 1) := by decide +kernel
theorem dL_smallest_16 : decode cL_smallest 16 = .ok (.ireturn, 1) := by decide +kernel
set_option maxRecDepth 20000 in
theorem ggL_greatest_X2_greatest : GoodIn wsL_greatest wsX2_greatest := goodIn_ca (goodIn_r _ [6, 7, 8, 9, 5, 10, 11, 12, 13, 14, 15, 16, 17, 18, 19, 20, 21, 22, 23, 24, 25, 26, 27, 28, 29, 30, 31, 32, 33, 34, 35, 36, 37, 38, 39] (by decide +kernel) (by decide +kernel)) (goodIn_sub (fun _ h => List.mem_cons_of_mem _ (List.mem_append_right _ h)) (by decide +kernel))
set_option maxRecDepth 20000 in
theorem gL_greatest_X2_greatest : GoodIn wsL_greatest (wsV RL 51 RX2 yX2_greatest wsX2_greatest) := goodIn_app (goodIn_of _ (by decide +kernel)) ggL_greatest_X2_greatest
theorem dL_greatest_0 : decode cL_greatest 0 = .ok (.aload_n 2, 1) := by decide +kernel
theorem dL_greatest_1 : decode cL_greatest 1 = .ok (.iconst 0, 1) := by decide +kernel
theorem dL_greatest_2 : decode cL_greatest 2 = .ok (.aload_n 0, 1) := by decide +kernel
theorem dL_greatest_3 : decode cL_greatest 3 = .ok (.iload_n 1, 1) := by decide +kernel
theorem dL_greatest_4 : decode cL_greatest 4 = .ok (.invokevirtual 51, 3) := by decide +kernel
theorem dL_greatest_7 : decode cL_greatest 7 = .ok (.i2l, 1) := by decide +kernel
theorem dL_greatest_8 : decode cL_greatest 8 = .ok (.lastore, 1) := by decide +kernel
theorem dL_greatest_9 : decode cL_greatest 9 = .ok (.goto 6, 3) := by decide +kernel
theorem dL_greatest_12 : decode cL_greatest 12 = .ok (.astore_n 3, 1) := by decide +kernel
theorem dL_greatest_13 : decode cL_greatest 13 = .ok (.iconst 1, 1) := by decide +kernel
theorem dL_greatest_14 : decode cL_greatest 14 = .ok (.ireturn, 1) := by decide +kernel
theorem dL_greatest_15 : decode cL_greatest 15 = .ok (.iconst 0, 1) := by decide +kernel
theorem dL_greatest_16 : decode cL_greatest 16 = .ok (.ireturn, 1) := by decide +kernel
set_option maxRecDepth 20000 in
theorem ggL_inOrder_X2_inOrder : GoodIn wsL_inOrder wsX2_inOrder := goodIn_ca (goodIn_r _ [6, 7, 8, 9, 10, 11, 12, 5, 13, 14, 15, 16, 17, 18, 19, 20, 21, 22, 23, 24, 25, 26, 27, 28, 29, 30, 31, 32, 33, 34, 35, 36, 37, 38, 39, 40, 41, 42, 43, 44, 45, 46, 47] (by decide +kernel) (by decide +kernel)) (goodIn_sub (fun _ h => List.mem_cons_of_mem _ (List.mem_append_right _ h)) (by decide +kernel))
set_option maxRecDepth 20000 in
theorem gL_inOrder_X2_inOrder : GoodIn wsL_inOrder (wsV RL 54 RX2 yX2_inOrder wsX2_inOrder) := goodIn_app (goodIn_of _ (by decide +kernel)) ggL_inOrder_X2_inOrder
theorem dL_inOrder_0 : decode cL_inOrder 0 = .ok (.aload_n 3, 1) := by decide +kernel
theorem dL_inOrder_1 : decode cL_inOrder 1 = .ok (.iconst 0, 1) := by decide +kernel
theorem dL_inOrder_2 : decode cL_inOrder 2 = .ok (.aload_n 0, 1) := by decide +kernel
theorem dL_inOrder_3 : decode cL_inOrder 3 = .ok (.iload_n 1, 1) := by decide +kernel
theorem dL_inOrder_4 : decode cL_inOrder 4 = .ok (.iload_n 2, 1) := by decide +kernel
theorem dL_inOrder_5 : decode cL_inOrder 5 = .ok (.invokevirtual 54, 3) := by decide +kernel
theorem dL_inOrder_8 : decode cL_inOrder 8 = .ok (.i2l, 1) := by decide +kernel
theorem dL_inOrder_9 : decode cL_inOrder 9 = .ok (.lastore, 1) := by decide +kernel
theorem dL_inOrder_10 : decode cL_inOrder 10 = .ok (.goto 7, 3) := by decide +kernel
theorem dL_inOrder_13 : decode cL_inOrder 13 = .ok (.astore 4, 2) := by decide +kernel
theorem dL_inOrder_15 : decode cL_inOrder 15 = .ok (.iconst 1, 1) := by decide +kernel
theorem dL_inOrder_16 : decode cL_inOrder 16 = .ok (.ireturn, 1) := by decide +kernel
theorem dL_inOrder_17 : decode cL_inOrder 17 = .ok (.iconst 0, 1) := by decide +kernel
theorem dL_inOrder_18 : decode cL_inOrder 18 = .ok (.ireturn, 1) := by decide +kernel
set_option maxRecDepth 20000 in
theorem ggL_leaves_X2_leaves : GoodIn wsL_leaves wsX2_leaves := goodIn_ca (goodIn_r _ [6, 7, 8, 9, 5, 10, 11, 12, 13, 14, 15, 16, 17, 18, 19, 20, 21, 22, 23, 24, 25, 26, 27, 28, 29, 30, 31, 32, 33, 34, 35, 36, 37, 38, 39, 40, 41, 42, 43, 44, 45, 46, 47, 48] (by decide +kernel) (by decide +kernel)) (goodIn_sub (fun _ h => List.mem_cons_of_mem _ (List.mem_append_right _ h)) (by decide +kernel))
set_option maxRecDepth 20000 in
theorem gL_leaves_X2_leaves : GoodIn wsL_leaves (wsV RL 57 RX2 yX2_leaves wsX2_leaves) := goodIn_app (goodIn_of _ (by decide +kernel)) ggL_leaves_X2_leaves
theorem dL_leaves_0 : decode cL_leaves 0 = .ok (.aload_n 2, 1) := by decide +kernel
theorem dL_leaves_1 : decode cL_leaves 1 = .ok (.iconst 0, 1) := by decide +kernel
theorem dL_leaves_2 : decode cL_leaves 2 = .ok (.aload_n 0, 1) := by decide +kernel
theorem dL_leaves_3 : decode cL_leaves 3 = .ok (.iload_n 1, 1) := by decide +kernel
theorem dL_leaves_4 : decode cL_leaves 4 = .ok (.invokevirtual 57, 3) := by decide +kernel
theorem dL_leaves_7 : decode cL_leaves 7 = .ok (.i2l, 1) := by decide +kernel
theorem dL_leaves_8 : decode cL_leaves 8 = .ok (.lastore, 1) := by decide +kernel
theorem dL_leaves_9 : decode cL_leaves 9 = .ok (.goto 6, 3) := by decide +kernel
theorem dL_leaves_12 : decode cL_leaves 12 = .ok (.astore_n 3, 1) := by decide +kernel
theorem dL_leaves_13 : decode cL_leaves 13 = .ok (.iconst 1, 1) := by decide +kernel
theorem dL_leaves_14 : decode cL_leaves 14 = .ok (.ireturn, 1) := by decide +kernel
theorem dL_leaves_15 : decode cL_leaves 15 = .ok (.iconst 0, 1) := by decide +kernel
theorem dL_leaves_16 : decode cL_leaves 16 = .ok (.ireturn, 1) := by decide +kernel
set_option maxRecDepth 20000 in
theorem ggL_has_X2_has : GoodIn wsL_has wsX2_has := goodIn_ca (goodIn_r _ [6, 7, 8, 9, 5, 10, 11, 12, 13, 14, 15, 16, 17, 18, 19, 20, 21, 22, 23, 24, 25, 26, 27, 28, 29, 30, 31, 32, 33, 34, 35, 36, 37, 38, 39, 40, 41, 42] (by decide +kernel) (by decide +kernel)) (goodIn_sub (fun _ h => List.mem_cons_of_mem _ (List.mem_append_right _ h)) (by decide +kernel))
set_option maxRecDepth 20000 in
theorem gL_has_X2_has : GoodIn wsL_has (wsV RL 60 RX2 yX2_has wsX2_has) := goodIn_app (goodIn_of _ (by decide +kernel)) ggL_has_X2_has
theorem dL_has_0 : decode cL_has 0 = .ok (.aload_n 3, 1) := by decide +kernel
theorem dL_has_1 : decode cL_has 1 = .ok (.iconst 0, 1) := by decide +kernel
theorem dL_has_2 : decode cL_has 2 = .ok (.aload_n 0, 1) := by decide +kernel
theorem dL_has_3 : decode cL_has 3 = .ok (.iload_n 1, 1) := by decide +kernel
theorem dL_has_4 : decode cL_has 4 = .ok (.iload_n 2, 1) := by decide +kernel
theorem dL_has_5 : decode cL_has 5 = .ok (.invokevirtual 60, 3) := by decide +kernel
theorem dL_has_8 : decode cL_has 8 = .ok (.ifCond .eq 7, 3) := by decide +kernel
theorem dL_has_11 : decode cL_has 11 = .ok (.lconst 1, 1) := by decide +kernel
theorem dL_has_12 : decode cL_has 12 = .ok (.goto 4, 3) := by decide +kernel
theorem dL_has_15 : decode cL_has 15 = .ok (.lconst 0, 1) := by decide +kernel
theorem dL_has_16 : decode cL_has 16 = .ok (.lastore, 1) := by decide +kernel
theorem dL_has_17 : decode cL_has 17 = .ok (.goto 7, 3) := by decide +kernel
theorem dL_has_20 : decode cL_has 20 = .ok (.astore 4, 2) := by decide +kernel
theorem dL_has_22 : decode cL_has 22 = .ok (.iconst 1, 1) := by decide +kernel
theorem dL_has_23 : decode cL_has 23 = .ok (.ireturn, 1) := by decide +kernel
theorem dL_has_24 : decode cL_has 24 = .ok (.iconst 0, 1) := by decide +kernel
theorem dL_has_25 : decode cL_has 25 = .ok (.ireturn, 1) := by decide +kernel
set_option maxRecDepth 20000 in
theorem ggL_smaller_X2_smaller : GoodIn wsL_smaller wsX2_smaller := goodIn_ca (goodIn_r _ [6, 7, 8, 9, 5, 10, 11, 12, 13, 14, 15, 16, 17, 18, 19, 20, 21, 22, 23, 24, 25, 26, 27, 28, 29, 30, 31, 32, 33, 34, 35, 36, 37, 38, 39, 40, 41, 42, 43, 44, 45, 46, 47] (by decide +kernel) (by decide +kernel)) (goodIn_sub (fun _ h => List.mem_cons_of_mem _ (List.mem_append_right _ h)) (by decide +kernel))
set_option maxRecDepth 20000 in
theorem gL_smaller_X2_smaller : GoodIn wsL_smaller (wsV RL 64 RX2 yX2_smaller wsX2_smaller) := goodIn_app (goodIn_of _ (by decide +kernel)) ggL_smaller_X2_smaller
theorem dL_smaller_0 : decode cL_smaller 0 = .ok (.aload_n 3, 1) := by decide +kernel
theorem dL_smaller_1 : decode cL_smaller 1 = .ok (.iconst 0, 1) := by decide +kernel
theorem dL_smaller_2 : decode cL_smaller 2 = .ok (.aload_n 0, 1) := by decide +kernel
theorem dL_smaller_3 : decode cL_smaller 3 = .ok (.iload_n 1, 1) := by decide +kernel
theorem dL_smaller_4 : decode cL_smaller 4 = .ok (.iload_n 2, 1) := by decide +kernel
theorem dL_smaller_5 : decode cL_smaller 5 = .ok (.invokevirtual 64, 3) := by decide +kernel
theorem dL_smaller_8 : decode cL_smaller 8 = .ok (.i2l, 1) := by decide +kernel
theorem dL_smaller_9 : decode cL_smaller 9 = .ok (.lastore, 1) := by decide +kernel
theorem dL_smaller_10 : decode cL_smaller 10 = .ok (.goto 7, 3) := by decide +kernel
theorem dL_smaller_13 : decode cL_smaller 13 = .ok (.astore 4, 2) := by decide +kernel
theorem dL_smaller_15 : decode cL_smaller 15 = .ok (.iconst 1, 1) := by decide +kernel
theorem dL_smaller_16 : decode cL_smaller 16 = .ok (.ireturn, 1) := by decide +kernel
theorem dL_smaller_17 : decode cL_smaller 17 = .ok (.iconst 0, 1) := by decide +kernel
theorem dL_smaller_18 : decode cL_smaller 18 = .ok (.ireturn, 1) := by decide +kernel
set_option maxRecDepth 20000 in
theorem ggL_depthOf_X2_depthOf : GoodIn wsL_depthOf wsX2_depthOf := goodIn_ca (goodIn_ca (goodIn_r _ [7, 8, 9, 10, 6, 11, 12, 13, 14, 15, 16, 17, 18, 19, 20, 21, 22, 23, 24, 25, 26, 27, 28, 29, 30, 31, 32, 33, 34, 35, 36, 37, 38, 39, 40, 41, 42, 43, 44, 45, 46, 47, 48, 49, 50, 51, 52, 53] (by decide +kernel) (by decide +kernel)) (goodIn_sub (fun _ h => List.mem_cons_of_mem _ (List.mem_append_left _ (List.mem_append_right _ h))) (by decide +kernel))) (goodIn_sub (fun _ h => List.mem_cons_of_mem _ (List.mem_append_right _ h)) (by decide +kernel))
set_option maxRecDepth 20000 in
theorem gL_depthOf_X2_depthOf : GoodIn wsL_depthOf (wsV RL 67 RX2 yX2_depthOf wsX2_depthOf) := goodIn_app (goodIn_of _ (by decide +kernel)) ggL_depthOf_X2_depthOf
theorem dL_depthOf_0 : decode cL_depthOf 0 = .ok (.aload_n 3, 1) := by decide +kernel
theorem dL_depthOf_1 : decode cL_depthOf 1 = .ok (.iconst 0, 1) := by decide +kernel
theorem dL_depthOf_2 : decode cL_depthOf 2 = .ok (.aload_n 0, 1) := by decide +kernel
theorem dL_depthOf_3 : decode cL_depthOf 3 = .ok (.iload_n 1, 1) := by decide +kernel
theorem dL_depthOf_4 : decode cL_depthOf 4 = .ok (.iload_n 2, 1) := by decide +kernel
theorem dL_depthOf_5 : decode cL_depthOf 5 = .ok (.invokevirtual 67, 3) := by decide +kernel
theorem dL_depthOf_8 : decode cL_depthOf 8 = .ok (.i2l, 1) := by decide +kernel
theorem dL_depthOf_9 : decode cL_depthOf 9 = .ok (.lastore, 1) := by decide +kernel
theorem dL_depthOf_10 : decode cL_depthOf 10 = .ok (.goto 11, 3) := by decide +kernel
theorem dL_depthOf_13 : decode cL_depthOf 13 = .ok (.astore 4, 2) := by decide +kernel
theorem dL_depthOf_15 : decode cL_depthOf 15 = .ok (.iconst 1, 1) := by decide +kernel
theorem dL_depthOf_16 : decode cL_depthOf 16 = .ok (.ireturn, 1) := by decide +kernel
theorem dL_depthOf_17 : decode cL_depthOf 17 = .ok (.astore 4, 2) := by decide +kernel
theorem dL_depthOf_19 : decode cL_depthOf 19 = .ok (.iconst 2, 1) := by decide +kernel
theorem dL_depthOf_20 : decode cL_depthOf 20 = .ok (.ireturn, 1) := by decide +kernel
theorem dL_depthOf_21 : decode cL_depthOf 21 = .ok (.iconst 0, 1) := by decide +kernel
theorem dL_depthOf_22 : decode cL_depthOf 22 = .ok (.ireturn, 1) := by decide +kernel
set_option maxRecDepth 20000 in
theorem ggL_above_X2_above : GoodIn wsL_above wsX2_above := goodIn_ca (goodIn_ca (goodIn_r _ [7, 8, 9, 10, 11, 6, 12, 13, 14, 15, 16, 17, 18, 19, 20, 21, 22, 23, 24, 25, 26, 27, 28, 29, 30, 31, 32, 33, 34, 35, 36, 37, 38, 39, 40, 41, 42, 43, 44, 45, 46, 47, 48, 49, 50, 51, 52, 53] (by decide +kernel) (by decide +kernel)) (goodIn_sub (fun _ h => List.mem_cons_of_mem _ (List.mem_append_left _ (List.mem_append_right _ h))) (by decide +kernel))) (goodIn_sub (fun _ h => List.mem_cons_of_mem _ (List.mem_append_right _ h)) (by decide +kernel))
set_option maxRecDepth 20000 in
theorem gL_above_X2_above : GoodIn wsL_above (wsV RL 70 RX2 yX2_above wsX2_above) := goodIn_app (goodIn_of _ (by decide +kernel)) ggL_above_X2_above
theorem dL_above_0 : decode cL_above 0 = .ok (.aload_n 3, 1) := by decide +kernel
theorem dL_above_1 : decode cL_above 1 = .ok (.iconst 0, 1) := by decide +kernel
theorem dL_above_2 : decode cL_above 2 = .ok (.aload_n 0, 1) := by decide +kernel
theorem dL_above_3 : decode cL_above 3 = .ok (.iload_n 1, 1) := by decide +kernel
theorem dL_above_4 : decode cL_above 4 = .ok (.iload_n 2, 1) := by decide +kernel
theorem dL_above_5 : decode cL_above 5 = .ok (.invokevirtual 70, 3) := by decide +kernel
theorem dL_above_8 : decode cL_above 8 = .ok (.i2l, 1) := by decide +kernel
theorem dL_above_9 : decode cL_above 9 = .ok (.lastore, 1) := by decide +kernel
theorem dL_above_10 : decode cL_above 10 = .ok (.goto 11, 3) := by decide +kernel
theorem dL_above_13 : decode cL_above 13 = .ok (.astore 4, 2) := by decide +kernel
theorem dL_above_15 : decode cL_above 15 = .ok (.iconst 1, 1) := by decide +kernel
theorem dL_above_16 : decode cL_above 16 = .ok (.ireturn, 1) := by decide +kernel
theorem dL_above_17 : decode cL_above 17 = .ok (.astore 4, 2) := by decide +kernel
theorem dL_above_19 : decode cL_above 19 = .ok (.iconst 2, 1) := by decide +kernel
theorem dL_above_20 : decode cL_above 20 = .ok (.ireturn, 1) := by decide +kernel
theorem dL_above_21 : decode cL_above 21 = .ok (.iconst 0, 1) := by decide +kernel
theorem dL_above_22 : decode cL_above 22 = .ok (.ireturn, 1) := by decide +kernel
set_option maxRecDepth 20000 in
theorem ggL_leftOf_X2_leftOf : GoodIn wsL_leftOf wsX2_leftOf := goodIn_ca (goodIn_ca (goodIn_r _ [7, 8, 9, 10, 11, 6, 12, 13, 14, 15, 16, 17, 18, 19, 20, 21, 22, 23, 24, 25, 26, 27, 28, 29, 30, 31, 32, 33, 34, 35, 36, 37, 38, 39, 40, 41, 42, 43, 44, 45, 46, 47, 48, 49, 50, 51, 52, 53] (by decide +kernel) (by decide +kernel)) (goodIn_sub (fun _ h => List.mem_cons_of_mem _ (List.mem_append_left _ (List.mem_append_right _ h))) (by decide +kernel))) (goodIn_sub (fun _ h => List.mem_cons_of_mem _ (List.mem_append_right _ h)) (by decide +kernel))
set_option maxRecDepth 20000 in
theorem gL_leftOf_X2_leftOf : GoodIn wsL_leftOf (wsV RL 73 RX2 yX2_leftOf wsX2_leftOf) := goodIn_app (goodIn_of _ (by decide +kernel)) ggL_leftOf_X2_leftOf
theorem dL_leftOf_0 : decode cL_leftOf 0 = .ok (.aload_n 3, 1) := by decide +kernel
theorem dL_leftOf_1 : decode cL_leftOf 1 = .ok (.iconst 0, 1) := by decide +kernel
theorem dL_leftOf_2 : decode cL_leftOf 2 = .ok (.aload_n 0, 1) := by decide +kernel
theorem dL_leftOf_3 : decode cL_leftOf 3 = .ok (.iload_n 1, 1) := by decide +kernel
theorem dL_leftOf_4 : decode cL_leftOf 4 = .ok (.iload_n 2, 1) := by decide +kernel
theorem dL_leftOf_5 : decode cL_leftOf 5 = .ok (.invokevirtual 73, 3) := by decide +kernel
theorem dL_leftOf_8 : decode cL_leftOf 8 = .ok (.i2l, 1) := by decide +kernel
theorem dL_leftOf_9 : decode cL_leftOf 9 = .ok (.lastore, 1) := by decide +kernel
theorem dL_leftOf_10 : decode cL_leftOf 10 = .ok (.goto 11, 3) := by decide +kernel
theorem dL_leftOf_13 : decode cL_leftOf 13 = .ok (.astore 4, 2) := by decide +kernel
theorem dL_leftOf_15 : decode cL_leftOf 15 = .ok (.iconst 1, 1) := by decide +kernel
theorem dL_leftOf_16 : decode cL_leftOf 16 = .ok (.ireturn, 1) := by decide +kernel
theorem dL_leftOf_17 : decode cL_leftOf 17 = .ok (.astore 4, 2) := by decide +kernel
theorem dL_leftOf_19 : decode cL_leftOf 19 = .ok (.iconst 2, 1) := by decide +kernel
theorem dL_leftOf_20 : decode cL_leftOf 20 = .ok (.ireturn, 1) := by decide +kernel
theorem dL_leftOf_21 : decode cL_leftOf 21 = .ok (.iconst 0, 1) := by decide +kernel
theorem dL_leftOf_22 : decode cL_leftOf 22 = .ok (.ireturn, 1) := by decide +kernel
set_option maxRecDepth 20000 in
theorem ggL_rightOf_X2_rightOf : GoodIn wsL_rightOf wsX2_rightOf := goodIn_ca (goodIn_ca (goodIn_r _ [7, 8, 9, 10, 11, 6, 12, 13, 14, 15, 16, 17, 18, 19, 20, 21, 22, 23, 24, 25, 26, 27, 28, 29, 30, 31, 32, 33, 34, 35, 36, 37, 38, 39, 40, 41, 42, 43, 44, 45, 46, 47, 48, 49, 50, 51, 52, 53] (by decide +kernel) (by decide +kernel)) (goodIn_sub (fun _ h => List.mem_cons_of_mem _ (List.mem_append_left _ (List.mem_append_right _ h))) (by decide +kernel))) (goodIn_sub (fun _ h => List.mem_cons_of_mem _ (List.mem_append_right _ h)) (by decide +kernel))
set_option maxRecDepth 20000 in
theorem gL_rightOf_X2_rightOf : GoodIn wsL_rightOf (wsV RL 76 RX2 yX2_rightOf wsX2_rightOf) := goodIn_app (goodIn_of _ (by decide +kernel)) ggL_rightOf_X2_rightOf
theorem dL_rightOf_0 : decode cL_rightOf 0 = .ok (.aload_n 3, 1) := by decide +kernel
theorem dL_rightOf_1 : decode cL_rightOf 1 = .ok (.iconst 0, 1) := by decide +kernel
theorem dL_rightOf_2 : decode cL_rightOf 2 = .ok (.aload_n 0, 1) := by decide +kernel
theorem dL_rightOf_3 : decode cL_rightOf 3 = .ok (.iload_n 1, 1) := by decide +kernel
theorem dL_rightOf_4 : decode cL_rightOf 4 = .ok (.iload_n 2, 1) := by decide +kernel
theorem dL_rightOf_5 : decode cL_rightOf 5 = .ok (.invokevirtual 76, 3) := by decide +kernel
theorem dL_rightOf_8 : decode cL_rightOf 8 = .ok (.i2l, 1) := by decide +kernel
theorem dL_rightOf_9 : decode cL_rightOf 9 = .ok (.lastore, 1) := by decide +kernel
theorem dL_rightOf_10 : decode cL_rightOf 10 = .ok (.goto 11, 3) := by decide +kernel
theorem dL_rightOf_13 : decode cL_rightOf 13 = .ok (.astore 4, 2) := by decide +kernel
theorem dL_rightOf_15 : decode cL_rightOf 15 = .ok (.iconst 1, 1) := by decide +kernel
theorem dL_rightOf_16 : decode cL_rightOf 16 = .ok (.ireturn, 1) := by decide +kernel
theorem dL_rightOf_17 : decode cL_rightOf 17 = .ok (.astore 4, 2) := by decide +kernel
theorem dL_rightOf_19 : decode cL_rightOf 19 = .ok (.iconst 2, 1) := by decide +kernel
theorem dL_rightOf_20 : decode cL_rightOf 20 = .ok (.ireturn, 1) := by decide +kernel
theorem dL_rightOf_21 : decode cL_rightOf 21 = .ok (.iconst 0, 1) := by decide +kernel
theorem dL_rightOf_22 : decode cL_rightOf 22 = .ok (.ireturn, 1) := by decide +kernel
set_option maxRecDepth 20000 in
theorem ggL_below_X2_below : GoodIn wsL_below wsX2_below := goodIn_ca (goodIn_ca (goodIn_r _ [7, 8, 9, 10, 6, 11, 12, 13, 14, 15, 16, 17, 18, 19, 20, 21, 22, 23, 24, 25, 26, 27, 28, 29, 30, 31, 32, 33, 34, 35, 36, 37, 38, 39, 40, 41, 42, 43, 44, 45, 46, 47, 48, 49, 50, 51, 52, 53, 54, 55, 56, 57, 58, 59, 60, 61, 62, 63, 64, 65] (by decide +kernel) (by decide +kernel)) (goodIn_sub (fun _ h => List.mem_cons_of_mem _ (List.mem_append_left _ (List.mem_append_right _ h))) (by decide +kernel))) (goodIn_sub (fun _ h => List.mem_cons_of_mem _ (List.mem_append_right _ h)) (by decide +kernel))
set_option maxRecDepth 20000 in
theorem gL_below_X2_below : GoodIn wsL_below (wsV RL 79 RX2 yX2_below wsX2_below) := goodIn_app (goodIn_of _ (by decide +kernel)) ggL_below_X2_below
theorem dL_below_0 : decode cL_below 0 = .ok (.aload_n 3, 1) := by decide +kernel
theorem dL_below_1 : decode cL_below 1 = .ok (.iconst 0, 1) := by decide +kernel
theorem dL_below_2 : decode cL_below 2 = .ok (.aload_n 0, 1) := by decide +kernel
theorem dL_below_3 : decode cL_below 3 = .ok (.iload_n 1, 1) := by decide +kernel
theorem dL_below_4 : decode cL_below 4 = .ok (.iload_n 2, 1) := by decide +kernel
theorem dL_below_5 : decode cL_below 5 = .ok (.invokevirtual 79, 3) := by decide +kernel
theorem dL_below_8 : decode cL_below 8 = .ok (.i2l, 1) := by decide +kernel
theorem dL_below_9 : decode cL_below 9 = .ok (.lastore, 1) := by decide +kernel
theorem dL_below_10 : decode cL_below 10 = .ok (.goto 11, 3) := by decide +kernel
theorem dL_below_13 : decode cL_below 13 = .ok (.astore 4, 2) := by decide +kernel
theorem dL_below_15 : decode cL_below 15 = .ok (.iconst 1, 1) := by decide +kernel
theorem dL_below_16 : decode cL_below 16 = .ok (.ireturn, 1) := by decide +kernel
theorem dL_below_17 : decode cL_below 17 = .ok (.astore 4, 2) := by decide +kernel
theorem dL_below_19 : decode cL_below 19 = .ok (.iconst 2, 1) := by decide +kernel
theorem dL_below_20 : decode cL_below 20 = .ok (.ireturn, 1) := by decide +kernel
theorem dL_below_21 : decode cL_below 21 = .ok (.iconst 0, 1) := by decide +kernel
theorem dL_below_22 : decode cL_below 22 = .ok (.ireturn, 1) := by decide +kernel
set_option maxRecDepth 20000 in
theorem ggL_eaten_X2_eaten : GoodIn wsL_eaten wsX2_eaten := goodIn_ca (goodIn_ca (goodIn_r _ [7, 8, 9, 10, 11, 6, 12, 13, 14, 15, 16, 17, 18, 19, 20, 21, 22, 23, 24, 25, 26, 27, 28, 29, 30, 31, 32, 33, 34, 35, 36, 37, 38, 39, 40, 41, 42, 43, 44, 45, 46, 47, 48, 49] (by decide +kernel) (by decide +kernel)) (goodIn_sub (fun _ h => List.mem_cons_of_mem _ (List.mem_append_left _ (List.mem_append_right _ h))) (by decide +kernel))) (goodIn_sub (fun _ h => List.mem_cons_of_mem _ (List.mem_append_right _ h)) (by decide +kernel))
set_option maxRecDepth 20000 in
theorem gL_eaten_X2_eaten : GoodIn wsL_eaten (wsV RL 82 RX2 yX2_eaten wsX2_eaten) := goodIn_app (goodIn_of _ (by decide +kernel)) ggL_eaten_X2_eaten
theorem dL_eaten_0 : decode cL_eaten 0 = .ok (.aload_n 3, 1) := by decide +kernel
theorem dL_eaten_1 : decode cL_eaten 1 = .ok (.iconst 0, 1) := by decide +kernel
theorem dL_eaten_2 : decode cL_eaten 2 = .ok (.aload_n 0, 1) := by decide +kernel
theorem dL_eaten_3 : decode cL_eaten 3 = .ok (.iload_n 1, 1) := by decide +kernel
theorem dL_eaten_4 : decode cL_eaten 4 = .ok (.iload_n 2, 1) := by decide +kernel
theorem dL_eaten_5 : decode cL_eaten 5 = .ok (.invokevirtual 82, 3) := by decide +kernel
theorem dL_eaten_8 : decode cL_eaten 8 = .ok (.i2l, 1) := by decide +kernel
theorem dL_eaten_9 : decode cL_eaten 9 = .ok (.lastore, 1) := by decide +kernel
theorem dL_eaten_10 : decode cL_eaten 10 = .ok (.goto 11, 3) := by decide +kernel
theorem dL_eaten_13 : decode cL_eaten 13 = .ok (.astore 4, 2) := by decide +kernel
theorem dL_eaten_15 : decode cL_eaten 15 = .ok (.iconst 1, 1) := by decide +kernel
theorem dL_eaten_16 : decode cL_eaten 16 = .ok (.ireturn, 1) := by decide +kernel
theorem dL_eaten_17 : decode cL_eaten 17 = .ok (.astore 4, 2) := by decide +kernel
theorem dL_eaten_19 : decode cL_eaten 19 = .ok (.iconst 2, 1) := by decide +kernel
theorem dL_eaten_20 : decode cL_eaten 20 = .ok (.ireturn, 1) := by decide +kernel
theorem dL_eaten_21 : decode cL_eaten 21 = .ok (.iconst 0, 1) := by decide +kernel
theorem dL_eaten_22 : decode cL_eaten 22 = .ok (.ireturn, 1) := by decide +kernel
set_option maxRecDepth 20000 in
theorem ggL_favourite_X2_favourite : GoodIn wsL_favourite wsX2_favourite := goodIn_ca (goodIn_r _ [6, 7, 8, 9, 5, 10, 11, 12, 13, 14, 15, 16, 17, 18, 19, 20, 21, 22, 23, 24, 25, 26, 27, 28, 29, 30, 31, 32, 33, 34, 35, 36, 37, 38, 39, 40, 41, 42, 43, 44, 45, 46, 47, 48, 49, 50, 51] (by decide +kernel) (by decide +kernel)) (goodIn_sub (fun _ h => List.mem_cons_of_mem _ (List.mem_append_right _ h)) (by decide +kernel))
set_option maxRecDepth 20000 in
theorem gL_favourite_X2_favourite : GoodIn wsL_favourite (wsV RL 85 RX2 yX2_favourite wsX2_favourite) := goodIn_app (goodIn_of _ (by decide +kernel)) ggL_favourite_X2_favourite
theorem dL_favourite_0 : decode cL_favourite 0 = .ok (.aload_n 2, 1) := by decide +kernel
theorem dL_favourite_1 : decode cL_favourite 1 = .ok (.iconst 0, 1) := by decide +kernel
theorem dL_favourite_2 : decode cL_favourite 2 = .ok (.aload_n 0, 1) := by decide +kernel
theorem dL_favourite_3 : decode cL_favourite 3 = .ok (.iload_n 1, 1) := by decide +kernel
theorem dL_favourite_4 : decode cL_favourite 4 = .ok (.invokevirtual 85, 3) := by decide +kernel
theorem dL_favourite_7 : decode cL_favourite 7 = .ok (.i2l, 1) := by decide +kernel
theorem dL_favourite_8 : decode cL_favourite 8 = .ok (.lastore, 1) := by decide +kernel
theorem dL_favourite_9 : decode cL_favourite 9 = .ok (.goto 6, 3) := by decide +kernel
theorem dL_favourite_12 : decode cL_favourite 12 = .ok (.astore_n 3, 1) := by decide +kernel
theorem dL_favourite_13 : decode cL_favourite 13 = .ok (.iconst 1, 1) := by decide +kernel
theorem dL_favourite_14 : decode cL_favourite 14 = .ok (.ireturn, 1) := by decide +kernel
theorem dL_favourite_15 : decode cL_favourite 15 = .ok (.iconst 0, 1) := by decide +kernel
theorem dL_favourite_16 : decode cL_favourite 16 = .ok (.ireturn, 1) := by decide +kernel
set_option maxRecDepth 20000 in
theorem ggL_meet_X2_meet : GoodIn wsL_meet wsX2_meet := goodIn_ca (goodIn_ca (goodIn_r _ [7, 8, 9, 10, 6, 11, 12, 13, 14, 15, 16, 17, 18, 19, 20, 21, 22, 23, 24, 25, 26, 27, 28, 29, 30, 31, 32, 33, 34, 35, 36, 37, 38, 39, 40, 41, 42, 43, 44, 45, 46, 47, 48, 49, 50, 51, 52, 53, 54, 55, 56, 57, 58, 59, 60, 61, 62, 63] (by decide +kernel) (by decide +kernel)) (goodIn_sub (fun _ h => List.mem_cons_of_mem _ (List.mem_append_left _ (List.mem_append_right _ h))) (by decide +kernel))) (goodIn_sub (fun _ h => List.mem_cons_of_mem _ (List.mem_append_right _ h)) (by decide +kernel))
set_option maxRecDepth 20000 in
theorem gL_meet_X2_meet : GoodIn wsL_meet (wsV RL 88 RX2 yX2_meet wsX2_meet) := goodIn_app (goodIn_of _ (by decide +kernel)) ggL_meet_X2_meet
theorem dL_meet_0 : decode cL_meet 0 = .ok (.aload 4, 2) := by decide +kernel
theorem dL_meet_2 : decode cL_meet 2 = .ok (.iconst 0, 1) := by decide +kernel
theorem dL_meet_3 : decode cL_meet 3 = .ok (.aload_n 0, 1) := by decide +kernel
theorem dL_meet_4 : decode cL_meet 4 = .ok (.iload_n 1, 1) := by decide +kernel
theorem dL_meet_5 : decode cL_meet 5 = .ok (.iload_n 2, 1) := by decide +kernel
theorem dL_meet_6 : decode cL_meet 6 = .ok (.iload_n 3, 1) := by decide +kernel
theorem dL_meet_7 : decode cL_meet 7 = .ok (.invokevirtual 88, 3) := by decide +kernel
theorem dL_meet_10 : decode cL_meet 10 = .ok (.i2l, 1) := by decide +kernel
theorem dL_meet_11 : decode cL_meet 11 = .ok (.lastore, 1) := by decide +kernel
theorem dL_meet_12 : decode cL_meet 12 = .ok (.goto 11, 3) := by decide +kernel
theorem dL_meet_15 : decode cL_meet 15 = .ok (.astore 5, 2) := by decide +kernel
theorem dL_meet_17 : decode cL_meet 17 = .ok (.iconst 1, 1) := by decide +kernel
theorem dL_meet_18 : decode cL_meet 18 = .ok (.ireturn, 1) := by decide +kernel
theorem dL_meet_19 : decode cL_meet 19 = .ok (.astore 5, 2) := by decide +kernel
theorem dL_meet_21 : decode cL_meet 21 = .ok (.iconst 2, 1) := by decide +kernel
theorem dL_meet_22 : decode cL_meet 22 = .ok (.ireturn, 1) := by decide +kernel
theorem dL_meet_23 : decode cL_meet 23 = .ok (.iconst 0, 1) := by decide +kernel
theorem dL_meet_24 : decode cL_meet 24 = .ok (.ireturn, 1) := by decide +kernel
set_option maxRecDepth 20000 in
theorem ggL_depthBehind_X2_depthBehind : GoodIn wsL_depthBehind wsX2_depthBehind := goodIn_ca (goodIn_ca (goodIn_r _ [7, 8, 9, 10, 11, 6, 12, 13, 14, 15, 16, 17, 18, 19, 20, 21, 22, 23, 24, 25, 26, 27, 28, 29, 30, 31, 32, 33, 34, 35, 36, 37, 38, 39, 40, 41, 42, 43, 44, 45, 46, 47, 48, 49, 50, 51, 52, 53, 54, 55, 56, 57, 58, 59, 60, 61, 62, 63, 64, 65, 66, 67, 68, 69, 70, 71, 72, 73, 74, 75, 76, 77, 78, 79, 80, 81, 82, 83, 84, 85, 86, 87, 88, 89, 90, 91, 92, 93, 94, 95, 96, 97, 98, 99, 100, 101, 102, 103, 104, 105, 106, 107, 108] (by decide +kernel) (by decide +kernel)) (goodIn_sub (fun _ h => List.mem_cons_of_mem _ (List.mem_append_left _ (List.mem_append_right _ h))) (by decide +kernel))) (goodIn_sub (fun _ h => List.mem_cons_of_mem _ (List.mem_append_right _ h)) (by decide +kernel))
set_option maxRecDepth 20000 in
theorem gL_depthBehind_X2_depthBehind : GoodIn wsL_depthBehind (wsV RL 91 RX2 yX2_depthBehind wsX2_depthBehind) := goodIn_app (goodIn_of _ (by decide +kernel)) ggL_depthBehind_X2_depthBehind
theorem dL_depthBehind_0 : decode cL_depthBehind 0 = .ok (.aload 4, 2) := by decide +kernel
theorem dL_depthBehind_2 : decode cL_depthBehind 2 = .ok (.iconst 0, 1) := by decide +kernel
theorem dL_depthBehind_3 : decode cL_depthBehind 3 = .ok (.aload_n 0, 1) := by decide +kernel
theorem dL_depthBehind_4 : decode cL_depthBehind 4 = .ok (.iload_n 1, 1) := by decide +kernel
theorem dL_depthBehind_5 : decode cL_depthBehind 5 = .ok (.iload_n 2, 1) := by decide +kernel
theorem dL_depthBehind_6 : decode cL_depthBehind 6 = .ok (.iload_n 3, 1) := by decide +kernel
theorem dL_depthBehind_7 : decode cL_depthBehind 7 = .ok (.invokevirtual 91, 3) := by decide +kernel
theorem dL_depthBehind_10 : decode cL_depthBehind 10 = .ok (.i2l, 1) := by decide +kernel
theorem dL_depthBehind_11 : decode cL_depthBehind 11 = .ok (.lastore, 1) := by decide +kernel
theorem dL_depthBehind_12 : decode cL_depthBehind 12 = .ok (.goto 11, 3) := by decide +kernel
theorem dL_depthBehind_15 : decode cL_depthBehind 15 = .ok (.astore 5, 2) := by decide +kernel
theorem dL_depthBehind_17 : decode cL_depthBehind 17 = .ok (.iconst 1, 1) := by decide +kernel
theorem dL_depthBehind_18 : decode cL_depthBehind 18 = .ok (.ireturn, 1) := by decide +kernel
theorem dL_depthBehind_19 : decode cL_depthBehind 19 = .ok (.astore 5, 2) := by decide +kernel
theorem dL_depthBehind_21 : decode cL_depthBehind 21 = .ok (.iconst 2, 1) := by decide +kernel
theorem dL_depthBehind_22 : decode cL_depthBehind 22 = .ok (.ireturn, 1) := by decide +kernel
theorem dL_depthBehind_23 : decode cL_depthBehind 23 = .ok (.iconst 0, 1) := by decide +kernel
theorem dL_depthBehind_24 : decode cL_depthBehind 24 = .ok (.ireturn, 1) := by decide +kernel
set_option maxRecDepth 20000 in
theorem ggL_heightBehind_X2_heightBehind : GoodIn wsL_heightBehind wsX2_heightBehind := goodIn_ca (goodIn_ca (goodIn_r _ [7, 8, 9, 10, 11, 6, 12, 13, 14, 15, 16, 17, 18, 19, 20, 21, 22, 23, 24, 25, 26, 27, 28, 29, 30, 31, 32, 33, 34, 35, 36, 37, 38, 39, 40, 41, 42, 43, 44, 45, 46, 47, 48, 49, 50, 51, 52, 53, 54, 55, 56, 57, 58, 59, 60, 61, 62, 63, 64, 65, 66, 67, 68, 69, 70, 71, 72, 73, 74, 75, 76, 77, 78, 79, 80, 81, 82, 83, 84, 85, 86, 87, 88, 89, 90, 91, 92, 93, 94, 95, 96, 97, 98, 99, 100, 101, 102, 103, 104, 105, 106, 107, 108, 109, 110, 111, 112, 113, 114, 115] (by decide +kernel) (by decide +kernel)) (goodIn_sub (fun _ h => List.mem_cons_of_mem _ (List.mem_append_left _ (List.mem_append_right _ h))) (by decide +kernel))) (goodIn_sub (fun _ h => List.mem_cons_of_mem _ (List.mem_append_right _ h)) (by decide +kernel))
set_option maxRecDepth 20000 in
theorem gL_heightBehind_X2_heightBehind : GoodIn wsL_heightBehind (wsV RL 94 RX2 yX2_heightBehind wsX2_heightBehind) := goodIn_app (goodIn_of _ (by decide +kernel)) ggL_heightBehind_X2_heightBehind
theorem dL_heightBehind_0 : decode cL_heightBehind 0 = .ok (.aload_n 3, 1) := by decide +kernel
theorem dL_heightBehind_1 : decode cL_heightBehind 1 = .ok (.iconst 0, 1) := by decide +kernel
theorem dL_heightBehind_2 : decode cL_heightBehind 2 = .ok (.aload_n 0, 1) := by decide +kernel
theorem dL_heightBehind_3 : decode cL_heightBehind 3 = .ok (.iload_n 1, 1) := by decide +kernel
theorem dL_heightBehind_4 : decode cL_heightBehind 4 = .ok (.iload_n 2, 1) := by decide +kernel
theorem dL_heightBehind_5 : decode cL_heightBehind 5 = .ok (.invokevirtual 94, 3) := by decide +kernel
theorem dL_heightBehind_8 : decode cL_heightBehind 8 = .ok (.i2l, 1) := by decide +kernel
theorem dL_heightBehind_9 : decode cL_heightBehind 9 = .ok (.lastore, 1) := by decide +kernel
theorem dL_heightBehind_10 : decode cL_heightBehind 10 = .ok (.goto 11, 3) := by decide +kernel
theorem dL_heightBehind_13 : decode cL_heightBehind 13 = .ok (.astore 4, 2) := by decide +kernel
theorem dL_heightBehind_15 : decode cL_heightBehind 15 = .ok (.iconst 1, 1) := by decide +kernel
theorem dL_heightBehind_16 : decode cL_heightBehind 16 = .ok (.ireturn, 1) := by decide +kernel
theorem dL_heightBehind_17 : decode cL_heightBehind 17 = .ok (.astore 4, 2) := by decide +kernel
theorem dL_heightBehind_19 : decode cL_heightBehind 19 = .ok (.iconst 2, 1) := by decide +kernel
theorem dL_heightBehind_20 : decode cL_heightBehind 20 = .ok (.ireturn, 1) := by decide +kernel
theorem dL_heightBehind_21 : decode cL_heightBehind 21 = .ok (.iconst 0, 1) := by decide +kernel
theorem dL_heightBehind_22 : decode cL_heightBehind 22 = .ok (.ireturn, 1) := by decide +kernel
set_option maxRecDepth 20000 in
theorem ggL_bestToEat_X2_bestToEat : GoodIn wsL_bestToEat wsX2_bestToEat := goodIn_ca (goodIn_r _ [6, 7, 8, 9, 10, 5, 11, 12, 13, 14, 15, 16, 17, 18, 19, 20, 21, 22, 23, 24, 25, 26, 27, 28, 29, 30, 31, 32, 33, 34, 35, 36, 37, 38, 39, 40, 41, 42, 43, 44, 45, 46, 47, 48, 49, 50, 51, 52, 53, 54, 55, 56, 57, 58, 59, 60, 61, 62, 63, 64, 65, 66, 67, 68, 69, 70, 71, 72, 73, 74, 75, 76, 77, 78, 79, 80, 81, 82, 83, 84, 85, 86, 87, 88, 89, 90, 91, 92, 93, 94, 95, 96, 97] (by decide +kernel) (by decide +kernel)) (goodIn_sub (fun _ h => List.mem_cons_of_mem _ (List.mem_append_right _ h)) (by decide +kernel))
set_option maxRecDepth 20000 in
theorem gL_bestToEat_X2_bestToEat : GoodIn wsL_bestToEat (wsV RL 97 RX2 yX2_bestToEat wsX2_bestToEat) := goodIn_app (goodIn_of _ (by decide +kernel)) ggL_bestToEat_X2_bestToEat
theorem dL_bestToEat_0 : decode cL_bestToEat 0 = .ok (.aload_n 2, 1) := by decide +kernel
theorem dL_bestToEat_1 : decode cL_bestToEat 1 = .ok (.iconst 0, 1) := by decide +kernel
theorem dL_bestToEat_2 : decode cL_bestToEat 2 = .ok (.aload_n 0, 1) := by decide +kernel
theorem dL_bestToEat_3 : decode cL_bestToEat 3 = .ok (.iload_n 1, 1) := by decide +kernel
theorem dL_bestToEat_4 : decode cL_bestToEat 4 = .ok (.invokevirtual 97, 3) := by decide +kernel
theorem dL_bestToEat_7 : decode cL_bestToEat 7 = .ok (.i2l, 1) := by decide +kernel
theorem dL_bestToEat_8 : decode cL_bestToEat 8 = .ok (.lastore, 1) := by decide +kernel
theorem dL_bestToEat_9 : decode cL_bestToEat 9 = .ok (.goto 6, 3) := by decide +kernel
theorem dL_bestToEat_12 : decode cL_bestToEat 12 = .ok (.astore_n 3, 1) := by decide +kernel
theorem dL_bestToEat_13 : decode cL_bestToEat 13 = .ok (.iconst 1, 1) := by decide +kernel
theorem dL_bestToEat_14 : decode cL_bestToEat 14 = .ok (.ireturn, 1) := by decide +kernel
theorem dL_bestToEat_15 : decode cL_bestToEat 15 = .ok (.iconst 0, 1) := by decide +kernel
theorem dL_bestToEat_16 : decode cL_bestToEat 16 = .ok (.ireturn, 1) := by decide +kernel
set_option maxRecDepth 20000 in
theorem ggL_plantDepth_X2_plantDepth : GoodIn wsL_plantDepth wsX2_plantDepth := goodIn_ca (goodIn_ca (goodIn_r _ [7, 8, 9, 10, 11, 6, 12, 13, 14, 15, 16, 17, 18, 19, 20, 21, 22, 23, 24, 25, 26, 27, 28, 29, 30, 31, 32, 33, 34, 35, 36, 37, 38, 39, 40, 41, 42, 43, 44, 45, 46, 47, 48, 49] (by decide +kernel) (by decide +kernel)) (goodIn_sub (fun _ h => List.mem_cons_of_mem _ (List.mem_append_left _ (List.mem_append_right _ h))) (by decide +kernel))) (goodIn_sub (fun _ h => List.mem_cons_of_mem _ (List.mem_append_right _ h)) (by decide +kernel))
set_option maxRecDepth 20000 in
theorem gL_plantDepth_X2_plantDepth : GoodIn wsL_plantDepth (wsV RL 100 RX2 yX2_plantDepth wsX2_plantDepth) := goodIn_app (goodIn_of _ (by decide +kernel)) ggL_plantDepth_X2_plantDepth
theorem dL_plantDepth_0 : decode cL_plantDepth 0 = .ok (.aload_n 3, 1) := by decide +kernel
theorem dL_plantDepth_1 : decode cL_plantDepth 1 = .ok (.iconst 0, 1) := by decide +kernel
theorem dL_plantDepth_2 : decode cL_plantDepth 2 = .ok (.aload_n 0, 1) := by decide +kernel
theorem dL_plantDepth_3 : decode cL_plantDepth 3 = .ok (.iload_n 1, 1) := by decide +kernel
theorem dL_plantDepth_4 : decode cL_plantDepth 4 = .ok (.iload_n 2, 1) := by decide +kernel
theorem dL_plantDepth_5 : decode cL_plantDepth 5 = .ok (.invokevirtual 100, 3) := by decide +kernel
theorem dL_plantDepth_8 : decode cL_plantDepth 8 = .ok (.i2l, 1) := by decide +kernel
theorem dL_plantDepth_9 : decode cL_plantDepth 9 = .ok (.lastore, 1) := by decide +kernel
theorem dL_plantDepth_10 : decode cL_plantDepth 10 = .ok (.goto 11, 3) := by decide +kernel
theorem dL_plantDepth_13 : decode cL_plantDepth 13 = .ok (.astore 4, 2) := by decide +kernel
theorem dL_plantDepth_15 : decode cL_plantDepth 15 = .ok (.iconst 1, 1) := by decide +kernel
theorem dL_plantDepth_16 : decode cL_plantDepth 16 = .ok (.ireturn, 1) := by decide +kernel
theorem dL_plantDepth_17 : decode cL_plantDepth 17 = .ok (.astore 4, 2) := by decide +kernel
theorem dL_plantDepth_19 : decode cL_plantDepth 19 = .ok (.iconst 2, 1) := by decide +kernel
theorem dL_plantDepth_20 : decode cL_plantDepth 20 = .ok (.ireturn, 1) := by decide +kernel
theorem dL_plantDepth_21 : decode cL_plantDepth 21 = .ok (.iconst 0, 1) := by decide +kernel
theorem dL_plantDepth_22 : decode cL_plantDepth 22 = .ok (.ireturn, 1) := by decide +kernel
set_option maxRecDepth 20000 in
theorem ggL_canJoin_X2_canJoin : GoodIn wsL_canJoin wsX2_canJoin := goodIn_ca (goodIn_r _ [6, 7, 8, 9, 5, 10, 11, 12, 13, 14, 15, 16, 17, 18, 19, 20, 21, 22, 23, 24, 25, 26, 27, 28, 29, 30, 31, 32, 33, 34, 35, 36, 37, 38, 39, 40, 41, 42, 43, 44, 45, 46, 47, 48] (by decide +kernel) (by decide +kernel)) (goodIn_sub (fun _ h => List.mem_cons_of_mem _ (List.mem_append_right _ h)) (by decide +kernel))
set_option maxRecDepth 20000 in
theorem gL_canJoin_X2_canJoin : GoodIn wsL_canJoin (wsV RL 103 RX2 yX2_canJoin wsX2_canJoin) := goodIn_app (goodIn_of _ (by decide +kernel)) ggL_canJoin_X2_canJoin
theorem dL_canJoin_0 : decode cL_canJoin 0 = .ok (.aload_n 3, 1) := by decide +kernel
theorem dL_canJoin_1 : decode cL_canJoin 1 = .ok (.iconst 0, 1) := by decide +kernel
theorem dL_canJoin_2 : decode cL_canJoin 2 = .ok (.aload_n 0, 1) := by decide +kernel
theorem dL_canJoin_3 : decode cL_canJoin 3 = .ok (.iload_n 1, 1) := by decide +kernel
theorem dL_canJoin_4 : decode cL_canJoin 4 = .ok (.iload_n 2, 1) := by decide +kernel
theorem dL_canJoin_5 : decode cL_canJoin 5 = .ok (.invokevirtual 103, 3) := by decide +kernel
theorem dL_canJoin_8 : decode cL_canJoin 8 = .ok (.ifCond .eq 7, 3) := by decide +kernel
theorem dL_canJoin_11 : decode cL_canJoin 11 = .ok (.lconst 1, 1) := by decide +kernel
theorem dL_canJoin_12 : decode cL_canJoin 12 = .ok (.goto 4, 3) := by decide +kernel
theorem dL_canJoin_15 : decode cL_canJoin 15 = .ok (.lconst 0, 1) := by decide +kernel
theorem dL_canJoin_16 : decode cL_canJoin 16 = .ok (.lastore, 1) := by decide +kernel
theorem dL_canJoin_17 : decode cL_canJoin 17 = .ok (.goto 7, 3) := by decide +kernel
theorem dL_canJoin_20 : decode cL_canJoin 20 = .ok (.astore 4, 2) := by decide +kernel
theorem dL_canJoin_22 : decode cL_canJoin 22 = .ok (.iconst 1, 1) := by decide +kernel
theorem dL_canJoin_23 : decode cL_canJoin 23 = .ok (.ireturn, 1) := by decide +kernel
theorem dL_canJoin_24 : decode cL_canJoin 24 = .ok (.iconst 0, 1) := by decide +kernel
theorem dL_canJoin_25 : decode cL_canJoin 25 = .ok (.ireturn, 1) := by decide +kernel
set_option maxRecDepth 20000 in
theorem ggL_meanDepth_X2_meanDepth : GoodIn wsL_meanDepth wsX2_meanDepth := goodIn_ca (goodIn_r _ [6, 7, 8, 9, 5, 10, 11, 12, 13, 14, 15, 16, 17, 18, 19, 20, 21, 22, 23, 24, 25, 26, 27, 28, 29, 30, 31, 32, 33, 34, 35, 36, 37, 38, 39, 40, 41, 42, 43, 44, 45, 46, 47, 48, 49, 50, 51, 52, 53, 54, 55, 56, 57, 58, 59, 60, 61, 62, 63] (by decide +kernel) (by decide +kernel)) (goodIn_sub (fun _ h => List.mem_cons_of_mem _ (List.mem_append_right _ h)) (by decide +kernel))
set_option maxRecDepth 20000 in
theorem gL_meanDepth_X2_meanDepth : GoodIn wsL_meanDepth (wsV RL 106 RX2 yX2_meanDepth wsX2_meanDepth) := goodIn_app (goodIn_of _ (by decide +kernel)) ggL_meanDepth_X2_meanDepth
theorem dL_meanDepth_0 : decode cL_meanDepth 0 = .ok (.aload_n 2, 1) := by decide +kernel
theorem dL_meanDepth_1 : decode cL_meanDepth 1 = .ok (.iconst 0, 1) := by decide +kernel
theorem dL_meanDepth_2 : decode cL_meanDepth 2 = .ok (.aload_n 0, 1) := by decide +kernel
theorem dL_meanDepth_3 : decode cL_meanDepth 3 = .ok (.iload_n 1, 1) := by decide +kernel
theorem dL_meanDepth_4 : decode cL_meanDepth 4 = .ok (.invokevirtual 106, 3) := by decide +kernel
theorem dL_meanDepth_7 : decode cL_meanDepth 7 = .ok (.dastore, 1) := by decide +kernel
theorem dL_meanDepth_8 : decode cL_meanDepth 8 = .ok (.goto 6, 3) := by decide +kernel
theorem dL_meanDepth_11 : decode cL_meanDepth 11 = .ok (.astore_n 3, 1) := by decide +kernel
theorem dL_meanDepth_12 : decode cL_meanDepth 12 = .ok (.iconst 1, 1) := by decide +kernel
theorem dL_meanDepth_13 : decode cL_meanDepth 13 = .ok (.ireturn, 1) := by decide +kernel
theorem dL_meanDepth_14 : decode cL_meanDepth 14 = .ok (.iconst 0, 1) := by decide +kernel
theorem dL_meanDepth_15 : decode cL_meanDepth 15 = .ok (.ireturn, 1) := by decide +kernel
