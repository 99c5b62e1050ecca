theorem dX3_init_0 : decode cX3_init 0 = .ok (.aload_n 0, 1) := by decide +kernel
theorem dX3_init_1 : decode cX3_init 1 = .ok (.invokespecial 1, 3) := by decide +kernel
theorem dX3_init_4 : decode cX3_init 4 = .ok (.aload_n 0, 1) := by decide +kernel
theorem dX3_init_5 : decode cX3_init 5 = .ok (.iload_n 1, 1) := by decide +kernel
theorem dX3_init_6 : decode cX3_init 6 = .ok (.putfield 7, 3) := by decide +kernel
theorem dX3_init_9 : decode cX3_init 9 = .ok (.return_, 1) := by decide +kernel
theorem dX4_init_0 : decode cX4_init 0 = .ok (.aload_n 0, 1) := by decide +kernel
theorem dX4_init_1 : decode cX4_init 1 = .ok (.invokespecial 1, 3) := by decide +kernel
theorem dX4_init_4 : decode cX4_init 4 = .ok (.aload_n 0, 1) := by decide +kernel
theorem dX4_init_5 : decode cX4_init 5 = .ok (.bipush 6, 2) := by decide +kernel
theorem dX4_init_7 : decode cX4_init 7 = .ok (.anewarray 7, 3) := by decide +kernel
theorem dX4_init_10 : decode cX4_init 10 = .ok (.putfield 9, 3) := by decide +kernel
theorem dX4_init_13 : decode cX4_init 13 = .ok (.return_, 1) := by decide +kernel
set_option maxRecDepth 20000 in
theorem ggX4_copy_X4_init : GoodIn wsX4_copy wsX4_init := goodIn_r _ [8, 9, 10, 11, 12, 4, 27, 28] (by decide +kernel) (by decide +kernel)
set_option maxRecDepth 20000 in
theorem gX4_copy_X4_init : GoodIn wsX4_copy (wsX4_init) := ggX4_copy_X4_init
set_option maxRecDepth 20000 in
theorem ggX4_copy_X4_copied : GoodIn wsX4_copy wsX4_copied := goodIn_r _ [15, 12, 16, 17, 18, 19, 20, 21, 22, 23, 24, 25, 10, 11, 26, 13, 14, 3, 29, 30, 31, 32] (by decide +kernel) (by decide +kernel)
set_option maxRecDepth 20000 in
theorem gX4_copy_X4_copied : GoodIn wsX4_copy (va_wsS RX4 16 yX4_copied wsX4_copied) := goodIn_app (goodIn_of _ (by decide +kernel)) ggX4_copy_X4_copied
theorem dX4_copy_0 : decode cX4_copy 0 = .ok (.new 10, 3) := by decide +kernel
theorem dX4_copy_3 : decode cX4_copy 3 = .ok (.dup, 1) := by decide +kernel
theorem dX4_copy_4 : decode cX4_copy 4 = .ok (.invokespecial 15, 3) := by decide +kernel
theorem dX4_copy_7 : decode cX4_copy 7 = .ok (.astore_n 1, 1) := by decide +kernel
theorem dX4_copy_8 : decode cX4_copy 8 = .ok (.iconst 0, 1) := by decide +kernel
theorem dX4_copy_9 : decode cX4_copy 9 = .ok (.istore_n 2, 1) := by decide +kernel
theorem dX4_copy_10 : decode cX4_copy 10 = .ok (.iload_n 2, 1) := by decide +kernel
theorem dX4_copy_11 : decode cX4_copy 11 = .ok (.bipush 6, 2) := by decide +kernel
theorem dX4_copy_13 : decode cX4_copy 13 = .ok (.if_icmp .ge 24, 3) := by decide +kernel
theorem dX4_copy_16 : decode cX4_copy 16 = .ok (.aload_n 1, 1) := by decide +kernel
theorem dX4_copy_17 : decode cX4_copy 17 = .ok (.getfield 9, 3) := by decide +kernel
theorem dX4_copy_20 : decode cX4_copy 20 = .ok (.iload_n 2, 1) := by decide +kernel
theorem dX4_copy_21 : decode cX4_copy 21 = .ok (.aload_n 0, 1) := by decide +kernel
theorem dX4_copy_22 : decode cX4_copy 22 = .ok (.getfield 9, 3) := by decide +kernel
theorem dX4_copy_25 : decode cX4_copy 25 = .ok (.iload_n 2, 1) := by decide +kernel
theorem dX4_copy_26 : decode cX4_copy 26 = .ok (.aaload, 1) := by decide +kernel
theorem dX4_copy_27 : decode cX4_copy 27 = .ok (.invokestatic 16, 3) := by decide +kernel
theorem dX4_copy_30 : decode cX4_copy 30 = .ok (.aastore, 1) := by decide +kernel
theorem dX4_copy_31 : decode cX4_copy 31 = .ok (.iinc 2 1, 3) := by decide +kernel
theorem dX4_copy_34 : decode cX4_copy 34 = .ok (.goto (-24), 3) := by decide +kernel
theorem dX4_copy_37 : decode cX4_copy 37 = .ok (.aload_n 1, 1) := by decide +kernel
theorem dX4_copy_38 : decode cX4_copy 38 = .ok (.aload_n 0, 1) := by decide +kernel
theorem dX4_copy_39 : decode cX4_copy 39 = .ok (.getfield 20, 3) := by decide +kernel
theorem dX4_copy_42 : decode cX4_copy 42 = .ok (.putfield 20, 3) := by decide +kernel
theorem dX4_copy_45 : decode cX4_copy 45 = .ok (.aload_n 1, 1) := by decide +kernel
theorem dX4_copy_46 : decode cX4_copy 46 = .ok (.areturn, 1) := by decide +kernel
set_option maxRecDepth 20000 in
theorem ggX4_copied_X3_init : GoodIn wsX4_copied wsX3_init := goodIn_r _ [10, 11, 12, 13, 14, 18, 19, 20, 21] (by decide +kernel) (by decide +kernel)
set_option maxRecDepth 20000 in
theorem gX4_copied_X3_init : GoodIn wsX4_copied (wsX3_init) := ggX4_copied_X3_init
set_option maxRecDepth 20000 in
theorem ggX4_copied_X4_copied : GoodIn wsX4_copied wsX4_copied := goodIn_r _ [0, 1, 2, 3, 4, 5, 6, 7, 8, 9, 10, 11, 12, 13, 14, 15, 16, 17, 18, 19, 20, 21] (by decide +kernel) (by decide +kernel)
set_option maxRecDepth 20000 in
theorem gX4_copied_X4_copied : GoodIn wsX4_copied (va_wsS RX4 16 yX4_copied wsX4_copied) := goodIn_app (goodIn_of _ (by decide +kernel)) ggX4_copied_X4_copied
theorem dX4_copied_0 : decode cX4_copied 0 = .ok (.aload_n 0, 1) := by decide +kernel
theorem dX4_copied_1 : decode cX4_copied 1 = .ok (.ifnonnull 5, 3) := by decide +kernel
theorem dX4_copied_4 : decode cX4_copied 4 = .ok (.aconst_null, 1) := by decide +kernel
theorem dX4_copied_5 : decode cX4_copied 5 = .ok (.areturn, 1) := by decide +kernel
theorem dX4_copied_6 : decode cX4_copied 6 = .ok (.new 7, 3) := by decide +kernel
theorem dX4_copied_9 : decode cX4_copied 9 = .ok (.dup, 1) := by decide +kernel
theorem dX4_copied_10 : decode cX4_copied 10 = .ok (.aload_n 0, 1) := by decide +kernel
theorem dX4_copied_11 : decode cX4_copied 11 = .ok (.getfield 24, 3) := by decide +kernel
theorem dX4_copied_14 : decode cX4_copied 14 = .ok (.invokespecial 27, 3) := by decide +kernel
theorem dX4_copied_17 : decode cX4_copied 17 = .ok (.astore_n 1, 1) := by decide +kernel
theorem dX4_copied_18 : decode cX4_copied 18 = .ok (.aload_n 1, 1) := by decide +kernel
theorem dX4_copied_19 : decode cX4_copied 19 = .ok (.aload_n 0, 1) := by decide +kernel
theorem dX4_copied_20 : decode cX4_copied 20 = .ok (.getfield 30, 3) := by decide +kernel
theorem dX4_copied_23 : decode cX4_copied 23 = .ok (.putfield 30, 3) := by decide +kernel
theorem dX4_copied_26 : decode cX4_copied 26 = .ok (.aload_n 1, 1) := by decide +kernel
theorem dX4_copied_27 : decode cX4_copied 27 = .ok (.aload_n 0, 1) := by decide +kernel
theorem dX4_copied_28 : decode cX4_copied 28 = .ok (.getfield 33, 3) := by decide +kernel
theorem dX4_copied_31 : decode cX4_copied 31 = .ok (.invokestatic 16, 3) := by decide +kernel
theorem dX4_copied_34 : decode cX4_copied 34 = .ok (.putfield 33, 3) := by decide +kernel
theorem dX4_copied_37 : decode cX4_copied 37 = .ok (.aload_n 1, 1) := by decide +kernel
theorem dX4_copied_38 : decode cX4_copied 38 = .ok (.aload_n 0, 1) := by decide +kernel
theorem dX4_copied_39 : decode cX4_copied 39 = .ok (.getfield 37, 3) := by decide +kernel
theorem dX4_copied_42 : decode cX4_copied 42 = .ok (.invokestatic 16, 3) := by decide +kernel
theorem dX4_copied_45 : decode cX4_copied 45 = .ok (.putfield 37, 3) := by decide +kernel
theorem dX4_copied_48 : decode cX4_copied 48 = .ok (.aload_n 1, 1) := by decide +kernel
theorem dX4_copied_49 : decode cX4_copied 49 = .ok (.areturn, 1) := by decide +kernel
set_option maxRecDepth 20000 in
theorem ggX4_count_X4_count : GoodIn wsX4_count wsX4_count := goodIn_r _ [0, 1, 2, 3, 4, 5, 6, 7, 8, 9] (by decide +kernel) (by decide +kernel)
set_option maxRecDepth 20000 in
theorem gX4_count_X4_count : GoodIn wsX4_count (va_wsS RX4 40 yX4_count wsX4_count) := goodIn_app (goodIn_of _ (by decide +kernel)) ggX4_count_X4_count
theorem dX4_count_0 : decode cX4_count 0 = .ok (.aload_n 0, 1) := by decide +kernel
theorem dX4_count_1 : decode cX4_count 1 = .ok (.ifnonnull 7, 3) := by decide +kernel
theorem dX4_count_4 : decode cX4_count 4 = .ok (.iconst 0, 1) := by decide +kernel
theorem dX4_count_5 : decode cX4_count 5 = .ok (.goto 20, 3) := by decide +kernel
theorem dX4_count_8 : decode cX4_count 8 = .ok (.iconst 1, 1) := by decide +kernel
theorem dX4_count_9 : decode cX4_count 9 = .ok (.aload_n 0, 1) := by decide +kernel
theorem dX4_count_10 : decode cX4_count 10 = .ok (.getfield 33, 3) := by decide +kernel
theorem dX4_count_13 : decode cX4_count 13 = .ok (.invokestatic 40, 3) := by decide +kernel
theorem dX4_count_16 : decode cX4_count 16 = .ok (.iadd, 1) := by decide +kernel
theorem dX4_count_17 : decode cX4_count 17 = .ok (.aload_n 0, 1) := by decide +kernel
theorem dX4_count_18 : decode cX4_count 18 = .ok (.getfield 37, 3) := by decide +kernel
theorem dX4_count_21 : decode cX4_count 21 = .ok (.invokestatic 40, 3) := by decide +kernel
theorem dX4_count_24 : decode cX4_count 24 = .ok (.iadd, 1) := by decide +kernel
theorem dX4_count_25 : decode cX4_count 25 = .ok (.ireturn, 1) := by decide +kernel
set_option maxRecDepth 20000 in
theorem ggX4_height_X4_height : GoodIn wsX4_height wsX4_height := goodIn_r _ [0, 1, 2, 3, 4, 5, 6, 7, 8, 9, 10, 11, 12, 13] (by decide +kernel) (by decide +kernel)
set_option maxRecDepth 20000 in
theorem gX4_height_X4_height : GoodIn wsX4_height (va_wsS RX4 44 yX4_height wsX4_height) := goodIn_app (goodIn_of _ (by decide +kernel)) ggX4_height_X4_height
theorem dX4_height_0 : decode cX4_height 0 = .ok (.aload_n 0, 1) := by decide +kernel
theorem dX4_height_1 : decode cX4_height 1 = .ok (.ifnonnull 7, 3) := by decide +kernel
theorem dX4_height_4 : decode cX4_height 4 = .ok (.iconst 0, 1) := by decide +kernel
theorem dX4_height_5 : decode cX4_height 5 = .ok (.goto 22, 3) := by decide +kernel
theorem dX4_height_8 : decode cX4_height 8 = .ok (.iconst 1, 1) := by decide +kernel
theorem dX4_height_9 : decode cX4_height 9 = .ok (.aload_n 0, 1) := by decide +kernel
theorem dX4_height_10 : decode cX4_height 10 = .ok (.getfield 33, 3) := by decide +kernel
theorem dX4_height_13 : decode cX4_height 13 = .ok (.invokestatic 44, 3) := by decide +kernel
theorem dX4_height_16 : decode cX4_height 16 = .ok (.aload_n 0, 1) := by decide +kernel
theorem dX4_height_17 : decode cX4_height 17 = .ok (.getfield 37, 3) := by decide +kernel
theorem dX4_height_20 : decode cX4_height 20 = .ok (.invokestatic 44, 3) := by decide +kernel
theorem dX4_height_23 : decode cX4_height 23 = .ok (.invokestatic 47, 3) := by decide +kernel
theorem dX4_height_26 : decode cX4_height 26 = .ok (.iadd, 1) := by decide +kernel
theorem dX4_height_27 : decode cX4_height 27 = .ok (.ireturn, 1) := by decide +kernel
set_option maxRecDepth 20000 in
theorem ggX4_depths_X4_depths : GoodIn wsX4_depths wsX4_depths := goodIn_r _ [0, 1, 2, 3, 4, 5, 6, 7, 8, 9, 10, 11, 12] (by decide +kernel) (by decide +kernel)
set_option maxRecDepth 20000 in
theorem gX4_depths_X4_depths : GoodIn wsX4_depths (va_wsS RX4 53 yX4_depths wsX4_depths) := goodIn_app (goodIn_of _ (by decide +kernel)) ggX4_depths_X4_depths
set_option maxRecDepth 20000 in
theorem ggX4_depths_X4_count : GoodIn wsX4_depths wsX4_count := goodIn_r _ [8, 1, 2, 6, 7, 5, 9, 10, 11, 12] (by decide +kernel) (by decide +kernel)
set_option maxRecDepth 20000 in
theorem gX4_depths_X4_count : GoodIn wsX4_depths (va_wsS RX4 40 yX4_count wsX4_count) := goodIn_app (goodIn_of _ (by decide +kernel)) ggX4_depths_X4_count
theorem dX4_depths_0 : decode cX4_depths 0 = .ok (.aload_n 0, 1) := by decide +kernel
theorem dX4_depths_1 : decode cX4_depths 1 = .ok (.ifnonnull 7, 3) := by decide +kernel
theorem dX4_depths_4 : decode cX4_depths 4 = .ok (.iconst 0, 1) := by decide +kernel
theorem dX4_depths_5 : decode cX4_depths 5 = .ok (.goto 34, 3) := by decide +kernel
theorem dX4_depths_8 : decode cX4_depths 8 = .ok (.aload_n 0, 1) := by decide +kernel
theorem dX4_depths_9 : decode cX4_depths 9 = .ok (.getfield 33, 3) := by decide +kernel
theorem dX4_depths_12 : decode cX4_depths 12 = .ok (.invokestatic 53, 3) := by decide +kernel
theorem dX4_depths_15 : decode cX4_depths 15 = .ok (.aload_n 0, 1) := by decide +kernel
theorem dX4_depths_16 : decode cX4_depths 16 = .ok (.getfield 33, 3) := by decide +kernel
theorem dX4_depths_19 : decode cX4_depths 19 = .ok (.invokestatic 40, 3) := by decide +kernel
theorem dX4_depths_22 : decode cX4_depths 22 = .ok (.iadd, 1) := by decide +kernel
theorem dX4_depths_23 : decode cX4_depths 23 = .ok (.aload_n 0, 1) := by decide +kernel
theorem dX4_depths_24 : decode cX4_depths 24 = .ok (.getfield 37, 3) := by decide +kernel
theorem dX4_depths_27 : decode cX4_depths 27 = .ok (.invokestatic 53, 3) := by decide +kernel
theorem dX4_depths_30 : decode cX4_depths 30 = .ok (.iadd, 1) := by decide +kernel
theorem dX4_depths_31 : decode cX4_depths 31 = .ok (.aload_n 0, 1) := by decide +kernel
theorem dX4_depths_32 : decode cX4_depths 32 = .ok (.getfield 37, 3) := by decide +kernel
theorem dX4_depths_35 : decode cX4_depths 35 = .ok (.invokestatic 40, 3) := by decide +kernel
theorem dX4_depths_38 : decode cX4_depths 38 = .ok (.iadd, 1) := by decide +kernel
theorem dX4_depths_39 : decode cX4_depths 39 = .ok (.ireturn, 1) := by decide +kernel
set_option maxRecDepth 20000 in
theorem ggX4_leaves_X4_leaves : GoodIn wsX4_leaves wsX4_leaves := goodIn_r _ [0, 1, 2, 3, 4, 5, 6, 7, 8, 9] (by decide +kernel) (by decide +kernel)
set_option maxRecDepth 20000 in
theorem gX4_leaves_X4_leaves : GoodIn wsX4_leaves (va_wsS RX4 56 yX4_leaves wsX4_leaves) := goodIn_app (goodIn_of _ (by decide +kernel)) ggX4_leaves_X4_leaves
theorem dX4_leaves_0 : decode cX4_leaves 0 = .ok (.aload_n 0, 1) := by decide +kernel
theorem dX4_leaves_1 : decode cX4_leaves 1 = .ok (.ifnonnull 7, 3) := by decide +kernel
theorem dX4_leaves_4 : decode cX4_leaves 4 = .ok (.iconst 0, 1) := by decide +kernel
theorem dX4_leaves_5 : decode cX4_leaves 5 = .ok (.goto 36, 3) := by decide +kernel
theorem dX4_leaves_8 : decode cX4_leaves 8 = .ok (.aload_n 0, 1) := by decide +kernel
theorem dX4_leaves_9 : decode cX4_leaves 9 = .ok (.getfield 33, 3) := by decide +kernel
theorem dX4_leaves_12 : decode cX4_leaves 12 = .ok (.ifnonnull 14, 3) := by decide +kernel
theorem dX4_leaves_15 : decode cX4_leaves 15 = .ok (.aload_n 0, 1) := by decide +kernel
theorem dX4_leaves_16 : decode cX4_leaves 16 = .ok (.getfield 37, 3) := by decide +kernel
theorem dX4_leaves_19 : decode cX4_leaves 19 = .ok (.ifnonnull 7, 3) := by decide +kernel
theorem dX4_leaves_22 : decode cX4_leaves 22 = .ok (.iconst 1, 1) := by decide +kernel
theorem dX4_leaves_23 : decode cX4_leaves 23 = .ok (.goto 18, 3) := by decide +kernel
theorem dX4_leaves_26 : decode cX4_leaves 26 = .ok (.aload_n 0, 1) := by decide +kernel
theorem dX4_leaves_27 : decode cX4_leaves 27 = .ok (.getfield 33, 3) := by decide +kernel
theorem dX4_leaves_30 : decode cX4_leaves 30 = .ok (.invokestatic 56, 3) := by decide +kernel
theorem dX4_leaves_33 : decode cX4_leaves 33 = .ok (.aload_n 0, 1) := by decide +kernel
theorem dX4_leaves_34 : decode cX4_leaves 34 = .ok (.getfield 37, 3) := by decide +kernel
theorem dX4_leaves_37 : decode cX4_leaves 37 = .ok (.invokestatic 56, 3) := by decide +kernel
theorem dX4_leaves_40 : decode cX4_leaves 40 = .ok (.iadd, 1) := by decide +kernel
theorem dX4_leaves_41 : decode cX4_leaves 41 = .ok (.ireturn, 1) := by decide +kernel
set_option maxRecDepth 20000 in
theorem ggX4_all_X4_count : GoodIn wsX4_all wsX4_count := goodIn_r _ [5, 6, 7, 2, 3, 4, 10, 11, 12, 13] (by decide +kernel) (by decide +kernel)
set_option maxRecDepth 20000 in
theorem gX4_all_X4_count : GoodIn wsX4_all (va_wsS RX4 40 yX4_count wsX4_count) := goodIn_app (goodIn_of _ (by decide +kernel)) ggX4_all_X4_count
theorem dX4_all_0 : decode cX4_all 0 = .ok (.iconst 0, 1) := by decide +kernel
theorem dX4_all_1 : decode cX4_all 1 = .ok (.istore_n 1, 1) := by decide +kernel
theorem dX4_all_2 : decode cX4_all 2 = .ok (.aload_n 0, 1) := by decide +kernel
theorem dX4_all_3 : decode cX4_all 3 = .ok (.getfield 9, 3) := by decide +kernel
theorem dX4_all_6 : decode cX4_all 6 = .ok (.astore_n 2, 1) := by decide +kernel
theorem dX4_all_7 : decode cX4_all 7 = .ok (.aload_n 2, 1) := by decide +kernel
theorem dX4_all_8 : decode cX4_all 8 = .ok (.arraylength, 1) := by decide +kernel
theorem dX4_all_9 : decode cX4_all 9 = .ok (.istore_n 3, 1) := by decide +kernel
theorem dX4_all_10 : decode cX4_all 10 = .ok (.iconst 0, 1) := by decide +kernel
theorem dX4_all_11 : decode cX4_all 11 = .ok (.istore 4, 2) := by decide +kernel
theorem dX4_all_13 : decode cX4_all 13 = .ok (.iload 4, 2) := by decide +kernel
theorem dX4_all_15 : decode cX4_all 15 = .ok (.iload_n 3, 1) := by decide +kernel
theorem dX4_all_16 : decode cX4_all 16 = .ok (.if_icmp .ge 23, 3) := by decide +kernel
theorem dX4_all_19 : decode cX4_all 19 = .ok (.aload_n 2, 1) := by decide +kernel
theorem dX4_all_20 : decode cX4_all 20 = .ok (.iload 4, 2) := by decide +kernel
theorem dX4_all_22 : decode cX4_all 22 = .ok (.aaload, 1) := by decide +kernel
theorem dX4_all_23 : decode cX4_all 23 = .ok (.astore 5, 2) := by decide +kernel
theorem dX4_all_25 : decode cX4_all 25 = .ok (.iload_n 1, 1) := by decide +kernel
theorem dX4_all_26 : decode cX4_all 26 = .ok (.aload 5, 2) := by decide +kernel
theorem dX4_all_28 : decode cX4_all 28 = .ok (.invokestatic 40, 3) := by decide +kernel
theorem dX4_all_31 : decode cX4_all 31 = .ok (.iadd, 1) := by decide +kernel
theorem dX4_all_32 : decode cX4_all 32 = .ok (.istore_n 1, 1) := by decide +kernel
theorem dX4_all_33 : decode cX4_all 33 = .ok (.iinc 4 1, 3) := by decide +kernel
theorem dX4_all_36 : decode cX4_all 36 = .ok (.goto (-23), 3) := by decide +kernel
theorem dX4_all_39 : decode cX4_all 39 = .ok (.iload_n 1, 1) := by decide +kernel
theorem dX4_all_40 : decode cX4_all 40 = .ok (.ireturn, 1) := by decide +kernel
theorem dX4_path_0 : decode cX4_path 0 = .ok (.iconst 0, 1) := by decide +kernel
theorem dX4_path_1 : decode cX4_path 1 = .ok (.istore_n 2, 1) := by decide +kernel
theorem dX4_path_2 : decode cX4_path 2 = .ok (.aload_n 0, 1) := by decide +kernel
theorem dX4_path_3 : decode cX4_path 3 = .ok (.astore_n 3, 1) := by decide +kernel
theorem dX4_path_4 : decode cX4_path 4 = .ok (.aload_n 3, 1) := by decide +kernel
theorem dX4_path_5 : decode cX4_path 5 = .ok (.ifnull 41, 3) := by decide +kernel
theorem dX4_path_8 : decode cX4_path 8 = .ok (.iinc 2 1, 3) := by decide +kernel
theorem dX4_path_11 : decode cX4_path 11 = .ok (.aload_n 3, 1) := by decide +kernel
theorem dX4_path_12 : decode cX4_path 12 = .ok (.getfield 24, 3) := by decide +kernel
theorem dX4_path_15 : decode cX4_path 15 = .ok (.iload_n 1, 1) := by decide +kernel
theorem dX4_path_16 : decode cX4_path 16 = .ok (.if_icmp .ne 7, 3) := by decide +kernel
theorem dX4_path_19 : decode cX4_path 19 = .ok (.aconst_null, 1) := by decide +kernel
theorem dX4_path_20 : decode cX4_path 20 = .ok (.goto 22, 3) := by decide +kernel
theorem dX4_path_23 : decode cX4_path 23 = .ok (.iload_n 1, 1) := by decide +kernel
theorem dX4_path_24 : decode cX4_path 24 = .ok (.aload_n 3, 1) := by decide +kernel
theorem dX4_path_25 : decode cX4_path 25 = .ok (.getfield 24, 3) := by decide +kernel
theorem dX4_path_28 : decode cX4_path 28 = .ok (.if_icmp .ge 10, 3) := by decide +kernel
theorem dX4_path_31 : decode cX4_path 31 = .ok (.aload_n 3, 1) := by decide +kernel
theorem dX4_path_32 : decode cX4_path 32 = .ok (.getfield 33, 3) := by decide +kernel
theorem dX4_path_35 : decode cX4_path 35 = .ok (.goto 7, 3) := by decide +kernel
theorem dX4_path_38 : decode cX4_path 38 = .ok (.aload_n 3, 1) := by decide +kernel
theorem dX4_path_39 : decode cX4_path 39 = .ok (.getfield 37, 3) := by decide +kernel
theorem dX4_path_42 : decode cX4_path 42 = .ok (.astore_n 3, 1) := by decide +kernel
theorem dX4_path_43 : decode cX4_path 43 = .ok (.goto (-39), 3) := by decide +kernel
theorem dX4_path_46 : decode cX4_path 46 = .ok (.iload_n 2, 1) := by decide +kernel
theorem dX4_path_47 : decode cX4_path 47 = .ok (.anewarray 7, 3) := by decide +kernel
theorem dX4_path_50 : decode cX4_path 50 = .ok (.astore_n 3, 1) := by decide +kernel
theorem dX4_path_51 : decode cX4_path 51 = .ok (.iconst 0, 1) := by decide +kernel
theorem dX4_path_52 : decode cX4_path 52 = .ok (.istore 4, 2) := by decide +kernel
theorem dX4_path_54 : decode cX4_path 54 = .ok (.aload_n 0, 1) := by decide +kernel
theorem dX4_path_55 : decode cX4_path 55 = .ok (.astore 5, 2) := by decide +kernel
theorem dX4_path_57 : decode cX4_path 57 = .ok (.iload 4, 2) := by decide +kernel
theorem dX4_path_59 : decode cX4_path 59 = .ok (.iload_n 2, 1) := by decide +kernel
theorem dX4_path_60 : decode cX4_path 60 = .ok (.if_icmp .ge 39, 3) := by decide +kernel
theorem dX4_path_63 : decode cX4_path 63 = .ok (.aload_n 3, 1) := by decide +kernel
theorem dX4_path_64 : decode cX4_path 64 = .ok (.iload 4, 2) := by decide +kernel
theorem dX4_path_66 : decode cX4_path 66 = .ok (.aload 5, 2) := by decide +kernel
theorem dX4_path_68 : decode cX4_path 68 = .ok (.aastore, 1) := by decide +kernel
theorem dX4_path_69 : decode cX4_path 69 = .ok (.iinc 4 1, 3) := by decide +kernel
theorem dX4_path_72 : decode cX4_path 72 = .ok (.iload_n 1, 1) := by decide +kernel
theorem dX4_path_73 : decode cX4_path 73 = .ok (.aload 5, 2) := by decide +kernel
theorem dX4_path_75 : decode cX4_path 75 = .ok (.getfield 24, 3) := by decide +kernel
theorem dX4_path_78 : decode cX4_path 78 = .ok (.if_icmp .ge 11, 3) := by decide +kernel
theorem dX4_path_81 : decode cX4_path 81 = .ok (.aload 5, 2) := by decide +kernel
theorem dX4_path_83 : decode cX4_path 83 = .ok (.getfield 33, 3) := by decide +kernel
theorem dX4_path_86 : decode cX4_path 86 = .ok (.goto 8, 3) := by decide +kernel
theorem dX4_path_89 : decode cX4_path 89 = .ok (.aload 5, 2) := by decide +kernel
theorem dX4_path_91 : decode cX4_path 91 = .ok (.getfield 37, 3) := by decide +kernel
theorem dX4_path_94 : decode cX4_path 94 = .ok (.astore 5, 2) := by decide +kernel
theorem dX4_path_96 : decode cX4_path 96 = .ok (.goto (-39), 3) := by decide +kernel
theorem dX4_path_99 : decode cX4_path 99 = .ok (.aload_n 3, 1) := by decide +kernel
theorem dX4_path_100 : decode cX4_path 100 = .ok (.areturn, 1) := by decide +kernel
set_option maxRecDepth 20000 in
theorem ggX4_has_X4_path : GoodIn wsX4_has wsX4_path := goodIn_r _ [5, 1, 6, 7, 8, 9, 10, 11, 12] (by decide +kernel) (by decide +kernel)
set_option maxRecDepth 20000 in
theorem gX4_has_X4_path : GoodIn wsX4_has (va_wsS RX4 59 yX4_path wsX4_path) := goodIn_app (goodIn_of _ (by decide +kernel)) ggX4_has_X4_path
theorem dX4_has_0 : decode cX4_has 0 = .ok (.aload_n 0, 1) := by decide +kernel
theorem dX4_has_1 : decode cX4_has 1 = .ok (.iload_n 1, 1) := by decide +kernel
theorem dX4_has_2 : decode cX4_has 2 = .ok (.invokestatic 59, 3) := by decide +kernel
theorem dX4_has_5 : decode cX4_has 5 = .ok (.astore_n 2, 1) := by decide +kernel
theorem dX4_has_6 : decode cX4_has 6 = .ok (.aload_n 2, 1) := by decide +kernel
theorem dX4_has_7 : decode cX4_has 7 = .ok (.arraylength, 1) := by decide +kernel
theorem dX4_has_8 : decode cX4_has 8 = .ok (.ifCond .le 20, 3) := by decide +kernel
theorem dX4_has_11 : decode cX4_has 11 = .ok (.aload_n 2, 1) := by decide +kernel
theorem dX4_has_12 : decode cX4_has 12 = .ok (.aload_n 2, 1) := by decide +kernel
theorem dX4_has_13 : decode cX4_has 13 = .ok (.arraylength, 1) := by decide +kernel
theorem dX4_has_14 : decode cX4_has 14 = .ok (.iconst 1, 1) := by decide +kernel
theorem dX4_has_15 : decode cX4_has 15 = .ok (.isub, 1) := by decide +kernel
theorem dX4_has_16 : decode cX4_has 16 = .ok (.aaload, 1) := by decide +kernel
theorem dX4_has_17 : decode cX4_has 17 = .ok (.getfield 24, 3) := by decide +kernel
theorem dX4_has_20 : decode cX4_has 20 = .ok (.iload_n 1, 1) := by decide +kernel
theorem dX4_has_21 : decode cX4_has 21 = .ok (.if_icmp .ne 7, 3) := by decide +kernel
theorem dX4_has_24 : decode cX4_has 24 = .ok (.iconst 1, 1) := by decide +kernel
theorem dX4_has_25 : decode cX4_has 25 = .ok (.goto 4, 3) := by decide +kernel
theorem dX4_has_28 : decode cX4_has 28 = .ok (.iconst 0, 1) := by decide +kernel
theorem dX4_has_29 : decode cX4_has 29 = .ok (.ireturn, 1) := by decide +kernel
theorem dX4_turn_0 : decode cX4_turn 0 = .ok (.aload_n 1, 1) := by decide +kernel
theorem dX4_turn_1 : decode cX4_turn 1 = .ok (.getfield 33, 3) := by decide +kernel
theorem dX4_turn_4 : decode cX4_turn 4 = .ok (.aload_n 2, 1) := by decide +kernel
theorem dX4_turn_5 : decode cX4_turn 5 = .ok (.if_acmp .ne 19, 3) := by decide +kernel
theorem dX4_turn_8 : decode cX4_turn 8 = .ok (.aload_n 1, 1) := by decide +kernel
theorem dX4_turn_9 : decode cX4_turn 9 = .ok (.aload_n 2, 1) := by decide +kernel
theorem dX4_turn_10 : decode cX4_turn 10 = .ok (.getfield 37, 3) := by decide +kernel
theorem dX4_turn_13 : decode cX4_turn 13 = .ok (.putfield 33, 3) := by decide +kernel
theorem dX4_turn_16 : decode cX4_turn 16 = .ok (.aload_n 2, 1) := by decide +kernel
theorem dX4_turn_17 : decode cX4_turn 17 = .ok (.aload_n 1, 1) := by decide +kernel
theorem dX4_turn_18 : decode cX4_turn 18 = .ok (.putfield 37, 3) := by decide +kernel
theorem dX4_turn_21 : decode cX4_turn 21 = .ok (.goto 16, 3) := by decide +kernel
theorem dX4_turn_24 : decode cX4_turn 24 = .ok (.aload_n 1, 1) := by decide +kernel
theorem dX4_turn_25 : decode cX4_turn 25 = .ok (.aload_n 2, 1) := by decide +kernel
theorem dX4_turn_26 : decode cX4_turn 26 = .ok (.getfield 33, 3) := by decide +kernel
theorem dX4_turn_29 : decode cX4_turn 29 = .ok (.putfield 37, 3) := by decide +kernel
theorem dX4_turn_32 : decode cX4_turn 32 = .ok (.aload_n 2, 1) := by decide +kernel
theorem dX4_turn_33 : decode cX4_turn 33 = .ok (.aload_n 1, 1) := by decide +kernel
theorem dX4_turn_34 : decode cX4_turn 34 = .ok (.putfield 33, 3) := by decide +kernel
theorem dX4_turn_37 : decode cX4_turn 37 = .ok (.aload_n 0, 1) := by decide +kernel
theorem dX4_turn_38 : decode cX4_turn 38 = .ok (.dup, 1) := by decide +kernel
theorem dX4_turn_39 : decode cX4_turn 39 = .ok (.getfield 20, 3) := by decide +kernel
theorem dX4_turn_42 : decode cX4_turn 42 = .ok (.iconst 1, 1) := by decide +kernel
theorem dX4_turn_43 : decode cX4_turn 43 = .ok (.iadd, 1) := by decide +kernel
theorem dX4_turn_44 : decode cX4_turn 44 = .ok (.putfield 20, 3) := by decide +kernel
theorem dX4_turn_47 : decode cX4_turn 47 = .ok (.return_, 1) := by decide +kernel
set_option maxRecDepth 20000 in
theorem ggX4_raise_X4_path : GoodIn wsX4_raise wsX4_path := goodIn_r _ [6, 7, 1, 2, 8, 14, 15, 16, 17] (by decide +kernel) (by decide +kernel)
set_option maxRecDepth 20000 in
theorem gX4_raise_X4_path : GoodIn wsX4_raise (va_wsS RX4 59 yX4_path wsX4_path) := goodIn_app (goodIn_of _ (by decide +kernel)) ggX4_raise_X4_path
set_option maxRecDepth 20000 in
theorem ggX4_raise_X4_turn : GoodIn wsX4_raise wsX4_turn := goodIn_r _ [12, 1, 2, 13, 14, 15, 16, 17, 18, 19] (by decide +kernel) (by decide +kernel)
set_option maxRecDepth 20000 in
theorem gX4_raise_X4_turn : GoodIn wsX4_raise (wsV RX4 63 RX4 yX4_turn wsX4_turn) := goodIn_app (goodIn_of _ (by decide +kernel)) ggX4_raise_X4_turn
theorem dX4_raise_0 : decode cX4_raise 0 = .ok (.aload_n 1, 1) := by decide +kernel
theorem dX4_raise_1 : decode cX4_raise 1 = .ok (.iload_n 2, 1) := by decide +kernel
theorem dX4_raise_2 : decode cX4_raise 2 = .ok (.invokestatic 59, 3) := by decide +kernel
theorem dX4_raise_5 : decode cX4_raise 5 = .ok (.astore_n 3, 1) := by decide +kernel
theorem dX4_raise_6 : decode cX4_raise 6 = .ok (.aload_n 3, 1) := by decide +kernel
theorem dX4_raise_7 : decode cX4_raise 7 = .ok (.arraylength, 1) := by decide +kernel
theorem dX4_raise_8 : decode cX4_raise 8 = .ok (.iconst 1, 1) := by decide +kernel
theorem dX4_raise_9 : decode cX4_raise 9 = .ok (.isub, 1) := by decide +kernel
theorem dX4_raise_10 : decode cX4_raise 10 = .ok (.istore 4, 2) := by decide +kernel
theorem dX4_raise_12 : decode cX4_raise 12 = .ok (.aload_n 3, 1) := by decide +kernel
theorem dX4_raise_13 : decode cX4_raise 13 = .ok (.iload 4, 2) := by decide +kernel
theorem dX4_raise_15 : decode cX4_raise 15 = .ok (.aaload, 1) := by decide +kernel
theorem dX4_raise_16 : decode cX4_raise 16 = .ok (.astore 5, 2) := by decide +kernel
theorem dX4_raise_18 : decode cX4_raise 18 = .ok (.iload 4, 2) := by decide +kernel
theorem dX4_raise_20 : decode cX4_raise 20 = .ok (.ifCond .le 215, 3) := by decide +kernel
theorem dX4_raise_23 : decode cX4_raise 23 = .ok (.aload_n 3, 1) := by decide +kernel
theorem dX4_raise_24 : decode cX4_raise 24 = .ok (.iload 4, 2) := by decide +kernel
theorem dX4_raise_26 : decode cX4_raise 26 = .ok (.iconst 1, 1) := by decide +kernel
theorem dX4_raise_27 : decode cX4_raise 27 = .ok (.isub, 1) := by decide +kernel
theorem dX4_raise_28 : decode cX4_raise 28 = .ok (.aaload, 1) := by decide +kernel
theorem dX4_raise_29 : decode cX4_raise 29 = .ok (.astore 6, 2) := by decide +kernel
theorem dX4_raise_31 : decode cX4_raise 31 = .ok (.iload 4, 2) := by decide +kernel
theorem dX4_raise_33 : decode cX4_raise 33 = .ok (.iconst 1, 1) := by decide +kernel
theorem dX4_raise_34 : decode cX4_raise 34 = .ok (.if_icmp .ne 14, 3) := by decide +kernel
theorem dX4_raise_37 : decode cX4_raise 37 = .ok (.aload_n 0, 1) := by decide +kernel
theorem dX4_raise_38 : decode cX4_raise 38 = .ok (.aload 6, 2) := by decide +kernel
theorem dX4_raise_40 : decode cX4_raise 40 = .ok (.aload 5, 2) := by decide +kernel
theorem dX4_raise_42 : decode cX4_raise 42 = .ok (.invokevirtual 63, 3) := by decide +kernel
theorem dX4_raise_45 : decode cX4_raise 45 = .ok (.goto 190, 3) := by decide +kernel
theorem dX4_raise_48 : decode cX4_raise 48 = .ok (.aload_n 3, 1) := by decide +kernel
theorem dX4_raise_49 : decode cX4_raise 49 = .ok (.iload 4, 2) := by decide +kernel
theorem dX4_raise_51 : decode cX4_raise 51 = .ok (.iconst 2, 1) := by decide +kernel
theorem dX4_raise_52 : decode cX4_raise 52 = .ok (.isub, 1) := by decide +kernel
theorem dX4_raise_53 : decode cX4_raise 53 = .ok (.aaload, 1) := by decide +kernel
theorem dX4_raise_54 : decode cX4_raise 54 = .ok (.astore 7, 2) := by decide +kernel
theorem dX4_raise_56 : decode cX4_raise 56 = .ok (.iload 4, 2) := by decide +kernel
theorem dX4_raise_58 : decode cX4_raise 58 = .ok (.iconst 2, 1) := by decide +kernel
theorem dX4_raise_59 : decode cX4_raise 59 = .ok (.if_icmp .le 12, 3) := by decide +kernel
theorem dX4_raise_62 : decode cX4_raise 62 = .ok (.aload_n 3, 1) := by decide +kernel
theorem dX4_raise_63 : decode cX4_raise 63 = .ok (.iload 4, 2) := by decide +kernel
theorem dX4_raise_65 : decode cX4_raise 65 = .ok (.iconst 3, 1) := by decide +kernel
theorem dX4_raise_66 : decode cX4_raise 66 = .ok (.isub, 1) := by decide +kernel
theorem dX4_raise_67 : decode cX4_raise 67 = .ok (.aaload, 1) := by decide +kernel
theorem dX4_raise_68 : decode cX4_raise 68 = .ok (.goto 4, 3) := by decide +kernel
theorem dX4_raise_71 : decode cX4_raise 71 = .ok (.aconst_null, 1) := by decide +kernel
theorem dX4_raise_72 : decode cX4_raise 72 = .ok (.astore 8, 2) := by decide +kernel
theorem dX4_raise_74 : decode cX4_raise 74 = .ok (.aload 8, 2) := by decide +kernel
theorem dX4_raise_76 : decode cX4_raise 76 = .ok (.ifnull 17, 3) := by decide +kernel
theorem dX4_raise_79 : decode cX4_raise 79 = .ok (.aload 8, 2) := by decide +kernel
theorem dX4_raise_81 : decode cX4_raise 81 = .ok (.getfield 33, 3) := by decide +kernel
theorem dX4_raise_84 : decode cX4_raise 84 = .ok (.aload 7, 2) := by decide +kernel
theorem dX4_raise_86 : decode cX4_raise 86 = .ok (.if_acmp .ne 7, 3) := by decide +kernel
theorem dX4_raise_89 : decode cX4_raise 89 = .ok (.iconst 1, 1) := by decide +kernel
theorem dX4_raise_90 : decode cX4_raise 90 = .ok (.goto 4, 3) := by decide +kernel
theorem dX4_raise_93 : decode cX4_raise 93 = .ok (.iconst 0, 1) := by decide +kernel
theorem dX4_raise_94 : decode cX4_raise 94 = .ok (.istore 9, 2) := by decide +kernel
theorem dX4_raise_96 : decode cX4_raise 96 = .ok (.aload 7, 2) := by decide +kernel
theorem dX4_raise_98 : decode cX4_raise 98 = .ok (.getfield 33, 3) := by decide +kernel
theorem dX4_raise_101 : decode cX4_raise 101 = .ok (.aload 6, 2) := by decide +kernel
theorem dX4_raise_103 : decode cX4_raise 103 = .ok (.if_acmp .ne 7, 3) := by decide +kernel
theorem dX4_raise_106 : decode cX4_raise 106 = .ok (.iconst 1, 1) := by decide +kernel
theorem dX4_raise_107 : decode cX4_raise 107 = .ok (.goto 4, 3) := by decide +kernel
theorem dX4_raise_110 : decode cX4_raise 110 = .ok (.iconst 0, 1) := by decide +kernel
theorem dX4_raise_111 : decode cX4_raise 111 = .ok (.aload 6, 2) := by decide +kernel
theorem dX4_raise_113 : decode cX4_raise 113 = .ok (.getfield 33, 3) := by decide +kernel
theorem dX4_raise_116 : decode cX4_raise 116 = .ok (.aload 5, 2) := by decide +kernel
theorem dX4_raise_118 : decode cX4_raise 118 = .ok (.if_acmp .ne 7, 3) := by decide +kernel
theorem dX4_raise_121 : decode cX4_raise 121 = .ok (.iconst 1, 1) := by decide +kernel
theorem dX4_raise_122 : decode cX4_raise 122 = .ok (.goto 4, 3) := by decide +kernel
theorem dX4_raise_125 : decode cX4_raise 125 = .ok (.iconst 0, 1) := by decide +kernel
theorem dX4_raise_126 : decode cX4_raise 126 = .ok (.if_icmp .ne 22, 3) := by decide +kernel
theorem dX4_raise_129 : decode cX4_raise 129 = .ok (.aload_n 0, 1) := by decide +kernel
theorem dX4_raise_130 : decode cX4_raise 130 = .ok (.aload 7, 2) := by decide +kernel
theorem dX4_raise_132 : decode cX4_raise 132 = .ok (.aload 6, 2) := by decide +kernel
theorem dX4_raise_134 : decode cX4_raise 134 = .ok (.invokevirtual 63, 3) := by decide +kernel
theorem dX4_raise_137 : decode cX4_raise 137 = .ok (.aload_n 0, 1) := by decide +kernel
theorem dX4_raise_138 : decode cX4_raise 138 = .ok (.aload 6, 2) := by decide +kernel
theorem dX4_raise_140 : decode cX4_raise 140 = .ok (.aload 5, 2) := by decide +kernel
theorem dX4_raise_142 : decode cX4_raise 142 = .ok (.invokevirtual 63, 3) := by decide +kernel
theorem dX4_raise_145 : decode cX4_raise 145 = .ok (.goto 46, 3) := by decide +kernel
theorem dX4_raise_148 : decode cX4_raise 148 = .ok (.aload_n 0, 1) := by decide +kernel
theorem dX4_raise_149 : decode cX4_raise 149 = .ok (.aload 6, 2) := by decide +kernel
theorem dX4_raise_151 : decode cX4_raise 151 = .ok (.aload 5, 2) := by decide +kernel
theorem dX4_raise_153 : decode cX4_raise 153 = .ok (.invokevirtual 63, 3) := by decide +kernel
theorem dX4_raise_156 : decode cX4_raise 156 = .ok (.aload 7, 2) := by decide +kernel
theorem dX4_raise_158 : decode cX4_raise 158 = .ok (.getfield 33, 3) := by decide +kernel
theorem dX4_raise_161 : decode cX4_raise 161 = .ok (.aload 6, 2) := by decide +kernel
theorem dX4_raise_163 : decode cX4_raise 163 = .ok (.if_acmp .ne 13, 3) := by decide +kernel
theorem dX4_raise_166 : decode cX4_raise 166 = .ok (.aload 7, 2) := by decide +kernel
theorem dX4_raise_168 : decode cX4_raise 168 = .ok (.aload 5, 2) := by decide +kernel
theorem dX4_raise_170 : decode cX4_raise 170 = .ok (.putfield 33, 3) := by decide +kernel
theorem dX4_raise_173 : decode cX4_raise 173 = .ok (.goto 10, 3) := by decide +kernel
theorem dX4_raise_176 : decode cX4_raise 176 = .ok (.aload 7, 2) := by decide +kernel
theorem dX4_raise_178 : decode cX4_raise 178 = .ok (.aload 5, 2) := by decide +kernel
theorem dX4_raise_180 : decode cX4_raise 180 = .ok (.putfield 37, 3) := by decide +kernel
theorem dX4_raise_183 : decode cX4_raise 183 = .ok (.aload_n 0, 1) := by decide +kernel
theorem dX4_raise_184 : decode cX4_raise 184 = .ok (.aload 7, 2) := by decide +kernel
theorem dX4_raise_186 : decode cX4_raise 186 = .ok (.aload 5, 2) := by decide +kernel
theorem dX4_raise_188 : decode cX4_raise 188 = .ok (.invokevirtual 63, 3) := by decide +kernel
theorem dX4_raise_191 : decode cX4_raise 191 = .ok (.aload 8, 2) := by decide +kernel
theorem dX4_raise_193 : decode cX4_raise 193 = .ok (.ifnull 18, 3) := by decide +kernel
theorem dX4_raise_196 : decode cX4_raise 196 = .ok (.iload 9, 2) := by decide +kernel
theorem dX4_raise_198 : decode cX4_raise 198 = .ok (.ifCond .eq 13, 3) := by decide +kernel
theorem dX4_raise_201 : decode cX4_raise 201 = .ok (.aload 8, 2) := by decide +kernel
theorem dX4_raise_203 : decode cX4_raise 203 = .ok (.aload 5, 2) := by decide +kernel
theorem dX4_raise_205 : decode cX4_raise 205 = .ok (.putfield 33, 3) := by decide +kernel
theorem dX4_raise_208 : decode cX4_raise 208 = .ok (.goto 15, 3) := by decide +kernel
theorem dX4_raise_211 : decode cX4_raise 211 = .ok (.aload 8, 2) := by decide +kernel
theorem dX4_raise_213 : decode cX4_raise 213 = .ok (.ifnull 10, 3) := by decide +kernel
theorem dX4_raise_216 : decode cX4_raise 216 = .ok (.aload 8, 2) := by decide +kernel
theorem dX4_raise_218 : decode cX4_raise 218 = .ok (.aload 5, 2) := by decide +kernel
theorem dX4_raise_220 : decode cX4_raise 220 = .ok (.putfield 37, 3) := by decide +kernel
theorem dX4_raise_223 : decode cX4_raise 223 = .ok (.iinc 4 (-2), 3) := by decide +kernel
theorem dX4_raise_226 : decode cX4_raise 226 = .ok (.aload_n 3, 1) := by decide +kernel
theorem dX4_raise_227 : decode cX4_raise 227 = .ok (.iload 4, 2) := by decide +kernel
theorem dX4_raise_229 : decode cX4_raise 229 = .ok (.aload 5, 2) := by decide +kernel
theorem dX4_raise_231 : decode cX4_raise 231 = .ok (.aastore, 1) := by decide +kernel
theorem dX4_raise_232 : decode cX4_raise 232 = .ok (.goto (-214), 3) := by decide +kernel
theorem dX4_raise_235 : decode cX4_raise 235 = .ok (.aload 5, 2) := by decide +kernel
theorem dX4_raise_237 : decode cX4_raise 237 = .ok (.areturn, 1) := by decide +kernel
set_option maxRecDepth 20000 in
theorem ggX4_plant_X4_path : GoodIn wsX4_plant wsX4_path := goodIn_r _ [11, 5, 6, 7, 2, 30, 31, 32, 33] (by decide +kernel) (by decide +kernel)
set_option maxRecDepth 20000 in
theorem gX4_plant_X4_path : GoodIn wsX4_plant (va_wsS RX4 59 yX4_path wsX4_path) := goodIn_app (goodIn_of _ (by decide +kernel)) ggX4_plant_X4_path
set_option maxRecDepth 20000 in
theorem ggX4_plant_X3_init : GoodIn wsX4_plant wsX3_init := goodIn_r _ [14, 15, 16, 17, 18, 30, 31, 32, 33] (by decide +kernel) (by decide +kernel)
set_option maxRecDepth 20000 in
theorem gX4_plant_X3_init : GoodIn wsX4_plant (wsX3_init) := ggX4_plant_X3_init
set_option maxRecDepth 20000 in
theorem ggX4_plant_X4_raise : GoodIn wsX4_plant wsX4_raise := goodIn_r _ [22, 6, 7, 8, 9, 10, 11, 5, 2, 23, 24, 25, 26, 27, 30, 31, 32, 33, 28, 29] (by decide +kernel) (by decide +kernel)
set_option maxRecDepth 20000 in
theorem gX4_plant_X4_raise : GoodIn wsX4_plant (wsV RX4 67 RX4 yX4_raise wsX4_raise) := goodIn_app (goodIn_of _ (by decide +kernel)) ggX4_plant_X4_raise
theorem dX4_plant_0 : decode cX4_plant 0 = .ok (.aload_n 0, 1) := by decide +kernel
theorem dX4_plant_1 : decode cX4_plant 1 = .ok (.getfield 9, 3) := by decide +kernel
theorem dX4_plant_4 : decode cX4_plant 4 = .ok (.iload_n 1, 1) := by decide +kernel
theorem dX4_plant_5 : decode cX4_plant 5 = .ok (.aaload, 1) := by decide +kernel
theorem dX4_plant_6 : decode cX4_plant 6 = .ok (.iload_n 2, 1) := by decide +kernel
theorem dX4_plant_7 : decode cX4_plant 7 = .ok (.invokestatic 59, 3) := by decide +kernel
theorem dX4_plant_10 : decode cX4_plant 10 = .ok (.astore_n 3, 1) := by decide +kernel
theorem dX4_plant_11 : decode cX4_plant 11 = .ok (.new 7, 3) := by decide +kernel
theorem dX4_plant_14 : decode cX4_plant 14 = .ok (.dup, 1) := by decide +kernel
theorem dX4_plant_15 : decode cX4_plant 15 = .ok (.iload_n 2, 1) := by decide +kernel
theorem dX4_plant_16 : decode cX4_plant 16 = .ok (.invokespecial 27, 3) := by decide +kernel
theorem dX4_plant_19 : decode cX4_plant 19 = .ok (.astore 4, 2) := by decide +kernel
theorem dX4_plant_21 : decode cX4_plant 21 = .ok (.aload_n 3, 1) := by decide +kernel
theorem dX4_plant_22 : decode cX4_plant 22 = .ok (.arraylength, 1) := by decide +kernel
theorem dX4_plant_23 : decode cX4_plant 23 = .ok (.ifCond .ne 14, 3) := by decide +kernel
theorem dX4_plant_26 : decode cX4_plant 26 = .ok (.aload_n 0, 1) := by decide +kernel
theorem dX4_plant_27 : decode cX4_plant 27 = .ok (.getfield 9, 3) := by decide +kernel
theorem dX4_plant_30 : decode cX4_plant 30 = .ok (.iload_n 1, 1) := by decide +kernel
theorem dX4_plant_31 : decode cX4_plant 31 = .ok (.aload 4, 2) := by decide +kernel
theorem dX4_plant_33 : decode cX4_plant 33 = .ok (.aastore, 1) := by decide +kernel
theorem dX4_plant_34 : decode cX4_plant 34 = .ok (.goto 41, 3) := by decide +kernel
theorem dX4_plant_37 : decode cX4_plant 37 = .ok (.iload_n 2, 1) := by decide +kernel
theorem dX4_plant_38 : decode cX4_plant 38 = .ok (.aload_n 3, 1) := by decide +kernel
theorem dX4_plant_39 : decode cX4_plant 39 = .ok (.aload_n 3, 1) := by decide +kernel
theorem dX4_plant_40 : decode cX4_plant 40 = .ok (.arraylength, 1) := by decide +kernel
theorem dX4_plant_41 : decode cX4_plant 41 = .ok (.iconst 1, 1) := by decide +kernel
theorem dX4_plant_42 : decode cX4_plant 42 = .ok (.isub, 1) := by decide +kernel
theorem dX4_plant_43 : decode cX4_plant 43 = .ok (.aaload, 1) := by decide +kernel
theorem dX4_plant_44 : decode cX4_plant 44 = .ok (.getfield 24, 3) := by decide +kernel
theorem dX4_plant_47 : decode cX4_plant 47 = .ok (.if_icmp .ge 17, 3) := by decide +kernel
theorem dX4_plant_50 : decode cX4_plant 50 = .ok (.aload_n 3, 1) := by decide +kernel
theorem dX4_plant_51 : decode cX4_plant 51 = .ok (.aload_n 3, 1) := by decide +kernel
theorem dX4_plant_52 : decode cX4_plant 52 = .ok (.arraylength, 1) := by decide +kernel
theorem dX4_plant_53 : decode cX4_plant 53 = .ok (.iconst 1, 1) := by decide +kernel
theorem dX4_plant_54 : decode cX4_plant 54 = .ok (.isub, 1) := by decide +kernel
theorem dX4_plant_55 : decode cX4_plant 55 = .ok (.aaload, 1) := by decide +kernel
theorem dX4_plant_56 : decode cX4_plant 56 = .ok (.aload 4, 2) := by decide +kernel
theorem dX4_plant_58 : decode cX4_plant 58 = .ok (.putfield 33, 3) := by decide +kernel
theorem dX4_plant_61 : decode cX4_plant 61 = .ok (.goto 14, 3) := by decide +kernel
theorem dX4_plant_64 : decode cX4_plant 64 = .ok (.aload_n 3, 1) := by decide +kernel
theorem dX4_plant_65 : decode cX4_plant 65 = .ok (.aload_n 3, 1) := by decide +kernel
theorem dX4_plant_66 : decode cX4_plant 66 = .ok (.arraylength, 1) := by decide +kernel
theorem dX4_plant_67 : decode cX4_plant 67 = .ok (.iconst 1, 1) := by decide +kernel
theorem dX4_plant_68 : decode cX4_plant 68 = .ok (.isub, 1) := by decide +kernel
theorem dX4_plant_69 : decode cX4_plant 69 = .ok (.aaload, 1) := by decide +kernel
theorem dX4_plant_70 : decode cX4_plant 70 = .ok (.aload 4, 2) := by decide +kernel
theorem dX4_plant_72 : decode cX4_plant 72 = .ok (.putfield 37, 3) := by decide +kernel
theorem dX4_plant_75 : decode cX4_plant 75 = .ok (.aload_n 0, 1) := by decide +kernel
theorem dX4_plant_76 : decode cX4_plant 76 = .ok (.getfield 9, 3) := by decide +kernel
theorem dX4_plant_79 : decode cX4_plant 79 = .ok (.iload_n 1, 1) := by decide +kernel
theorem dX4_plant_80 : decode cX4_plant 80 = .ok (.aload_n 0, 1) := by decide +kernel
theorem dX4_plant_81 : decode cX4_plant 81 = .ok (.aload_n 0, 1) := by decide +kernel
theorem dX4_plant_82 : decode cX4_plant 82 = .ok (.getfield 9, 3) := by decide +kernel
theorem dX4_plant_85 : decode cX4_plant 85 = .ok (.iload_n 1, 1) := by decide +kernel
theorem dX4_plant_86 : decode cX4_plant 86 = .ok (.aaload, 1) := by decide +kernel
theorem dX4_plant_87 : decode cX4_plant 87 = .ok (.iload_n 2, 1) := by decide +kernel
theorem dX4_plant_88 : decode cX4_plant 88 = .ok (.invokevirtual 67, 3) := by decide +kernel
theorem dX4_plant_91 : decode cX4_plant 91 = .ok (.aastore, 1) := by decide +kernel
theorem dX4_plant_92 : decode cX4_plant 92 = .ok (.aload_n 3, 1) := by decide +kernel
theorem dX4_plant_93 : decode cX4_plant 93 = .ok (.arraylength, 1) := by decide +kernel
theorem dX4_plant_94 : decode cX4_plant 94 = .ok (.ireturn, 1) := by decide +kernel
set_option maxRecDepth 20000 in
theorem ggX4_eat_X4_path : GoodIn wsX4_eat wsX4_path := goodIn_r _ [6, 7, 8, 9, 10, 22, 23, 24, 25] (by decide +kernel) (by decide +kernel)
set_option maxRecDepth 20000 in
theorem gX4_eat_X4_path : GoodIn wsX4_eat (va_wsS RX4 59 yX4_path wsX4_path) := goodIn_app (goodIn_of _ (by decide +kernel)) ggX4_eat_X4_path
set_option maxRecDepth 20000 in
theorem ggX4_eat_X4_raise : GoodIn wsX4_eat wsX4_raise := goodIn_r _ [14, 8, 9, 3, 4, 5, 6, 7, 10, 15, 16, 17, 18, 19, 22, 23, 24, 25, 20, 21] (by decide +kernel) (by decide +kernel)
set_option maxRecDepth 20000 in
theorem gX4_eat_X4_raise : GoodIn wsX4_eat (wsV RX4 67 RX4 yX4_raise wsX4_raise) := goodIn_app (goodIn_of _ (by decide +kernel)) ggX4_eat_X4_raise
theorem dX4_eat_0 : decode cX4_eat 0 = .ok (.aload_n 0, 1) := by decide +kernel
theorem dX4_eat_1 : decode cX4_eat 1 = .ok (.getfield 9, 3) := by decide +kernel
theorem dX4_eat_4 : decode cX4_eat 4 = .ok (.iload_n 1, 1) := by decide +kernel
theorem dX4_eat_5 : decode cX4_eat 5 = .ok (.aaload, 1) := by decide +kernel
theorem dX4_eat_6 : decode cX4_eat 6 = .ok (.iload_n 2, 1) := by decide +kernel
theorem dX4_eat_7 : decode cX4_eat 7 = .ok (.invokestatic 59, 3) := by decide +kernel
theorem dX4_eat_10 : decode cX4_eat 10 = .ok (.arraylength, 1) := by decide +kernel
theorem dX4_eat_11 : decode cX4_eat 11 = .ok (.iconst 1, 1) := by decide +kernel
theorem dX4_eat_12 : decode cX4_eat 12 = .ok (.isub, 1) := by decide +kernel
theorem dX4_eat_13 : decode cX4_eat 13 = .ok (.istore_n 3, 1) := by decide +kernel
theorem dX4_eat_14 : decode cX4_eat 14 = .ok (.aload_n 0, 1) := by decide +kernel
theorem dX4_eat_15 : decode cX4_eat 15 = .ok (.getfield 9, 3) := by decide +kernel
theorem dX4_eat_18 : decode cX4_eat 18 = .ok (.iload_n 1, 1) := by decide +kernel
theorem dX4_eat_19 : decode cX4_eat 19 = .ok (.aload_n 0, 1) := by decide +kernel
theorem dX4_eat_20 : decode cX4_eat 20 = .ok (.aload_n 0, 1) := by decide +kernel
theorem dX4_eat_21 : decode cX4_eat 21 = .ok (.getfield 9, 3) := by decide +kernel
theorem dX4_eat_24 : decode cX4_eat 24 = .ok (.iload_n 1, 1) := by decide +kernel
theorem dX4_eat_25 : decode cX4_eat 25 = .ok (.aaload, 1) := by decide +kernel
theorem dX4_eat_26 : decode cX4_eat 26 = .ok (.iload_n 2, 1) := by decide +kernel
theorem dX4_eat_27 : decode cX4_eat 27 = .ok (.invokevirtual 67, 3) := by decide +kernel
theorem dX4_eat_30 : decode cX4_eat 30 = .ok (.aastore, 1) := by decide +kernel
theorem dX4_eat_31 : decode cX4_eat 31 = .ok (.aload_n 0, 1) := by decide +kernel
theorem dX4_eat_32 : decode cX4_eat 32 = .ok (.getfield 9, 3) := by decide +kernel
theorem dX4_eat_35 : decode cX4_eat 35 = .ok (.iload_n 1, 1) := by decide +kernel
theorem dX4_eat_36 : decode cX4_eat 36 = .ok (.aaload, 1) := by decide +kernel
theorem dX4_eat_37 : decode cX4_eat 37 = .ok (.dup, 1) := by decide +kernel
theorem dX4_eat_38 : decode cX4_eat 38 = .ok (.getfield 30, 3) := by decide +kernel
theorem dX4_eat_41 : decode cX4_eat 41 = .ok (.iconst 1, 1) := by decide +kernel
theorem dX4_eat_42 : decode cX4_eat 42 = .ok (.iadd, 1) := by decide +kernel
theorem dX4_eat_43 : decode cX4_eat 43 = .ok (.putfield 30, 3) := by decide +kernel
theorem dX4_eat_46 : decode cX4_eat 46 = .ok (.iload_n 3, 1) := by decide +kernel
theorem dX4_eat_47 : decode cX4_eat 47 = .ok (.ireturn, 1) := by decide +kernel
set_option maxRecDepth 20000 in
theorem ggX4_most_X4_most : GoodIn wsX4_most wsX4_most := goodIn_r _ [0, 1, 2, 3, 4, 5, 6, 7, 8, 9] (by decide +kernel) (by decide +kernel)
set_option maxRecDepth 20000 in
theorem gX4_most_X4_most : GoodIn wsX4_most (va_wsS RX4 71 yX4_most wsX4_most) := goodIn_app (goodIn_of _ (by decide +kernel)) ggX4_most_X4_most
theorem dX4_most_0 : decode cX4_most 0 = .ok (.aload_n 0, 1) := by decide +kernel
theorem dX4_most_1 : decode cX4_most 1 = .ok (.getfield 37, 3) := by decide +kernel
theorem dX4_most_4 : decode cX4_most 4 = .ok (.ifnonnull 10, 3) := by decide +kernel
theorem dX4_most_7 : decode cX4_most 7 = .ok (.aload_n 0, 1) := by decide +kernel
theorem dX4_most_8 : decode cX4_most 8 = .ok (.getfield 24, 3) := by decide +kernel
theorem dX4_most_11 : decode cX4_most 11 = .ok (.goto 10, 3) := by decide +kernel
theorem dX4_most_14 : decode cX4_most 14 = .ok (.aload_n 0, 1) := by decide +kernel
theorem dX4_most_15 : decode cX4_most 15 = .ok (.getfield 37, 3) := by decide +kernel
theorem dX4_most_18 : decode cX4_most 18 = .ok (.invokestatic 71, 3) := by decide +kernel
theorem dX4_most_21 : decode cX4_most 21 = .ok (.ireturn, 1) := by decide +kernel
set_option maxRecDepth 20000 in
theorem ggX4_least_X4_least : GoodIn wsX4_least wsX4_least := goodIn_r _ [0, 1, 2, 3, 4, 5, 6, 7, 8, 9] (by decide +kernel) (by decide +kernel)
set_option maxRecDepth 20000 in
theorem gX4_least_X4_least : GoodIn wsX4_least (va_wsS RX4 74 yX4_least wsX4_least) := goodIn_app (goodIn_of _ (by decide +kernel)) ggX4_least_X4_least
theorem dX4_least_0 : decode cX4_least 0 = .ok (.aload_n 0, 1) := by decide +kernel
theorem dX4_least_1 : decode cX4_least 1 = .ok (.getfield 33, 3) := by decide +kernel
theorem dX4_least_4 : decode cX4_least 4 = .ok (.ifnonnull 10, 3) := by decide +kernel
theorem dX4_least_7 : decode cX4_least 7 = .ok (.aload_n 0, 1) := by decide +kernel
theorem dX4_least_8 : decode cX4_least 8 = .ok (.getfield 24, 3) := by decide +kernel
theorem dX4_least_11 : decode cX4_least 11 = .ok (.goto 10, 3) := by decide +kernel
theorem dX4_least_14 : decode cX4_least 14 = .ok (.aload_n 0, 1) := by decide +kernel
theorem dX4_least_15 : decode cX4_least 15 = .ok (.getfield 33, 3) := by decide +kernel
theorem dX4_least_18 : decode cX4_least 18 = .ok (.invokestatic 74, 3) := by decide +kernel
theorem dX4_least_21 : decode cX4_least 21 = .ok (.ireturn, 1) := by decide +kernel
set_option maxRecDepth 20000 in
theorem ggX4_both_X4_most : GoodIn wsX4_both wsX4_most := goodIn_r _ [5, 1, 6, 2, 3, 4, 21, 22, 23, 24] (by decide +kernel) (by decide +kernel)
set_option maxRecDepth 20000 in
theorem gX4_both_X4_most : GoodIn wsX4_both (va_wsS RX4 71 yX4_most wsX4_most) := goodIn_app (goodIn_of _ (by decide +kernel)) ggX4_both_X4_most
set_option maxRecDepth 20000 in
theorem ggX4_both_X4_raise : GoodIn wsX4_both wsX4_raise := goodIn_r _ [10, 11, 1, 12, 13, 4, 14, 6, 15, 16, 17, 18, 19, 20, 21, 22, 23, 24, 25, 26] (by decide +kernel) (by decide +kernel)
set_option maxRecDepth 20000 in
theorem gX4_both_X4_raise : GoodIn wsX4_both (wsV RX4 67 RX4 yX4_raise wsX4_raise) := goodIn_app (goodIn_of _ (by decide +kernel)) ggX4_both_X4_raise
theorem dX4_both_0 : decode cX4_both 0 = .ok (.aload_n 1, 1) := by decide +kernel
theorem dX4_both_1 : decode cX4_both 1 = .ok (.ifnonnull 5, 3) := by decide +kernel
theorem dX4_both_4 : decode cX4_both 4 = .ok (.aload_n 2, 1) := by decide +kernel
theorem dX4_both_5 : decode cX4_both 5 = .ok (.areturn, 1) := by decide +kernel
theorem dX4_both_6 : decode cX4_both 6 = .ok (.aload_n 0, 1) := by decide +kernel
theorem dX4_both_7 : decode cX4_both 7 = .ok (.aload_n 1, 1) := by decide +kernel
theorem dX4_both_8 : decode cX4_both 8 = .ok (.aload_n 1, 1) := by decide +kernel
theorem dX4_both_9 : decode cX4_both 9 = .ok (.invokestatic 71, 3) := by decide +kernel
theorem dX4_both_12 : decode cX4_both 12 = .ok (.invokevirtual 67, 3) := by decide +kernel
theorem dX4_both_15 : decode cX4_both 15 = .ok (.astore_n 3, 1) := by decide +kernel
theorem dX4_both_16 : decode cX4_both 16 = .ok (.aload_n 3, 1) := by decide +kernel
theorem dX4_both_17 : decode cX4_both 17 = .ok (.aload_n 2, 1) := by decide +kernel
theorem dX4_both_18 : decode cX4_both 18 = .ok (.putfield 37, 3) := by decide +kernel
theorem dX4_both_21 : decode cX4_both 21 = .ok (.aload_n 3, 1) := by decide +kernel
theorem dX4_both_22 : decode cX4_both 22 = .ok (.areturn, 1) := by decide +kernel
set_option maxRecDepth 20000 in
theorem ggX4_pick_X4_raise : GoodIn wsX4_pick wsX4_raise := goodIn_r _ [9, 2, 3, 10, 11, 8, 12, 13, 14, 15, 16, 17, 18, 19, 29, 30, 31, 32, 27, 28] (by decide +kernel) (by decide +kernel)
set_option maxRecDepth 20000 in
theorem gX4_pick_X4_raise : GoodIn wsX4_pick (wsV RX4 67 RX4 yX4_raise wsX4_raise) := goodIn_app (goodIn_of _ (by decide +kernel)) ggX4_pick_X4_raise
set_option maxRecDepth 20000 in
theorem ggX4_pick_X4_both : GoodIn wsX4_pick wsX4_both := goodIn_r _ [23, 3, 24, 25, 8, 26, 13, 5, 6, 7, 9, 2, 10, 11, 12, 14, 15, 16, 17, 18, 19, 29, 30, 31, 32, 27, 28] (by decide +kernel) (by decide +kernel)
set_option maxRecDepth 20000 in
theorem gX4_pick_X4_both : GoodIn wsX4_pick (wsV RX4 77 RX4 yX4_both wsX4_both) := goodIn_app (goodIn_of _ (by decide +kernel)) ggX4_pick_X4_both
theorem dX4_pick_0 : decode cX4_pick 0 = .ok (.aload_n 0, 1) := by decide +kernel
theorem dX4_pick_1 : decode cX4_pick 1 = .ok (.aload_n 0, 1) := by decide +kernel
theorem dX4_pick_2 : decode cX4_pick 2 = .ok (.getfield 9, 3) := by decide +kernel
theorem dX4_pick_5 : decode cX4_pick 5 = .ok (.iload_n 1, 1) := by decide +kernel
theorem dX4_pick_6 : decode cX4_pick 6 = .ok (.aaload, 1) := by decide +kernel
theorem dX4_pick_7 : decode cX4_pick 7 = .ok (.iload_n 2, 1) := by decide +kernel
theorem dX4_pick_8 : decode cX4_pick 8 = .ok (.invokevirtual 67, 3) := by decide +kernel
theorem dX4_pick_11 : decode cX4_pick 11 = .ok (.astore_n 3, 1) := by decide +kernel
theorem dX4_pick_12 : decode cX4_pick 12 = .ok (.aload_n 0, 1) := by decide +kernel
theorem dX4_pick_13 : decode cX4_pick 13 = .ok (.getfield 9, 3) := by decide +kernel
theorem dX4_pick_16 : decode cX4_pick 16 = .ok (.iload_n 1, 1) := by decide +kernel
theorem dX4_pick_17 : decode cX4_pick 17 = .ok (.aload_n 0, 1) := by decide +kernel
theorem dX4_pick_18 : decode cX4_pick 18 = .ok (.aload_n 3, 1) := by decide +kernel
theorem dX4_pick_19 : decode cX4_pick 19 = .ok (.getfield 33, 3) := by decide +kernel
theorem dX4_pick_22 : decode cX4_pick 22 = .ok (.aload_n 3, 1) := by decide +kernel
theorem dX4_pick_23 : decode cX4_pick 23 = .ok (.getfield 37, 3) := by decide +kernel
theorem dX4_pick_26 : decode cX4_pick 26 = .ok (.invokevirtual 77, 3) := by decide +kernel
theorem dX4_pick_29 : decode cX4_pick 29 = .ok (.aastore, 1) := by decide +kernel
theorem dX4_pick_30 : decode cX4_pick 30 = .ok (.aload_n 3, 1) := by decide +kernel
theorem dX4_pick_31 : decode cX4_pick 31 = .ok (.getfield 30, 3) := by decide +kernel
theorem dX4_pick_34 : decode cX4_pick 34 = .ok (.ireturn, 1) := by decide +kernel
set_option maxRecDepth 20000 in
theorem ggX4_split_X4_has : GoodIn wsX4_split wsX4_has := goodIn_r _ [6, 7, 8, 9, 5, 10, 11, 2, 12, 27, 28, 29, 30] (by decide +kernel) (by decide +kernel)
set_option maxRecDepth 20000 in
theorem gX4_split_X4_has : GoodIn wsX4_split (va_wsS RX4 81 yX4_has wsX4_has) := goodIn_app (goodIn_of _ (by decide +kernel)) ggX4_split_X4_has
set_option maxRecDepth 20000 in
theorem ggX4_split_X4_raise : GoodIn wsX4_split wsX4_raise := goodIn_r _ [16, 11, 2, 8, 9, 5, 10, 7, 12, 17, 18, 19, 20, 21, 27, 28, 29, 30, 25, 26] (by decide +kernel) (by decide +kernel)
set_option maxRecDepth 20000 in
theorem gX4_split_X4_raise : GoodIn wsX4_split (wsV RX4 67 RX4 yX4_raise wsX4_raise) := goodIn_app (goodIn_of _ (by decide +kernel)) ggX4_split_X4_raise
set_option maxRecDepth 20000 in
theorem ggX4_split_X4_count : GoodIn wsX4_split wsX4_count := goodIn_r _ [24, 11, 2, 22, 23, 5, 27, 28, 29, 30] (by decide +kernel) (by decide +kernel)
set_option maxRecDepth 20000 in
theorem gX4_split_X4_count : GoodIn wsX4_split (va_wsS RX4 40 yX4_count wsX4_count) := goodIn_app (goodIn_of _ (by decide +kernel)) ggX4_split_X4_count
theorem dX4_split_0 : decode cX4_split 0 = .ok (.iconst (-1), 1) := by decide +kernel
theorem dX4_split_1 : decode cX4_split 1 = .ok (.istore 4, 2) := by decide +kernel
theorem dX4_split_3 : decode cX4_split 3 = .ok (.iconst 0, 1) := by decide +kernel
theorem dX4_split_4 : decode cX4_split 4 = .ok (.istore 5, 2) := by decide +kernel
theorem dX4_split_6 : decode cX4_split 6 = .ok (.iload 5, 2) := by decide +kernel
theorem dX4_split_8 : decode cX4_split 8 = .ok (.iload_n 2, 1) := by decide +kernel
theorem dX4_split_9 : decode cX4_split 9 = .ok (.if_icmp .ge 27, 3) := by decide +kernel
theorem dX4_split_12 : decode cX4_split 12 = .ok (.aload_n 0, 1) := by decide +kernel
theorem dX4_split_13 : decode cX4_split 13 = .ok (.getfield 9, 3) := by decide +kernel
theorem dX4_split_16 : decode cX4_split 16 = .ok (.iload_n 1, 1) := by decide +kernel
theorem dX4_split_17 : decode cX4_split 17 = .ok (.aaload, 1) := by decide +kernel
theorem dX4_split_18 : decode cX4_split 18 = .ok (.iload 5, 2) := by decide +kernel
theorem dX4_split_20 : decode cX4_split 20 = .ok (.invokestatic 81, 3) := by decide +kernel
theorem dX4_split_23 : decode cX4_split 23 = .ok (.ifCond .eq 7, 3) := by decide +kernel
theorem dX4_split_26 : decode cX4_split 26 = .ok (.iload 5, 2) := by decide +kernel
theorem dX4_split_28 : decode cX4_split 28 = .ok (.istore 4, 2) := by decide +kernel
theorem dX4_split_30 : decode cX4_split 30 = .ok (.iinc 5 1, 3) := by decide +kernel
theorem dX4_split_33 : decode cX4_split 33 = .ok (.goto (-27), 3) := by decide +kernel
theorem dX4_split_36 : decode cX4_split 36 = .ok (.iload 4, 2) := by decide +kernel
theorem dX4_split_38 : decode cX4_split 38 = .ok (.ifCond .ge 25, 3) := by decide +kernel
theorem dX4_split_41 : decode cX4_split 41 = .ok (.aload_n 0, 1) := by decide +kernel
theorem dX4_split_42 : decode cX4_split 42 = .ok (.getfield 9, 3) := by decide +kernel
theorem dX4_split_45 : decode cX4_split 45 = .ok (.iload_n 3, 1) := by decide +kernel
theorem dX4_split_46 : decode cX4_split 46 = .ok (.aload_n 0, 1) := by decide +kernel
theorem dX4_split_47 : decode cX4_split 47 = .ok (.getfield 9, 3) := by decide +kernel
theorem dX4_split_50 : decode cX4_split 50 = .ok (.iload_n 1, 1) := by decide +kernel
theorem dX4_split_51 : decode cX4_split 51 = .ok (.aaload, 1) := by decide +kernel
theorem dX4_split_52 : decode cX4_split 52 = .ok (.aastore, 1) := by decide +kernel
theorem dX4_split_53 : decode cX4_split 53 = .ok (.aload_n 0, 1) := by decide +kernel
theorem dX4_split_54 : decode cX4_split 54 = .ok (.getfield 9, 3) := by decide +kernel
theorem dX4_split_57 : decode cX4_split 57 = .ok (.iload_n 1, 1) := by decide +kernel
theorem dX4_split_58 : decode cX4_split 58 = .ok (.aconst_null, 1) := by decide +kernel
theorem dX4_split_59 : decode cX4_split 59 = .ok (.aastore, 1) := by decide +kernel
theorem dX4_split_60 : decode cX4_split 60 = .ok (.goto 46, 3) := by decide +kernel
theorem dX4_split_63 : decode cX4_split 63 = .ok (.aload_n 0, 1) := by decide +kernel
theorem dX4_split_64 : decode cX4_split 64 = .ok (.getfield 9, 3) := by decide +kernel
theorem dX4_split_67 : decode cX4_split 67 = .ok (.iload_n 1, 1) := by decide +kernel
theorem dX4_split_68 : decode cX4_split 68 = .ok (.aload_n 0, 1) := by decide +kernel
theorem dX4_split_69 : decode cX4_split 69 = .ok (.aload_n 0, 1) := by decide +kernel
theorem dX4_split_70 : decode cX4_split 70 = .ok (.getfield 9, 3) := by decide +kernel
theorem dX4_split_73 : decode cX4_split 73 = .ok (.iload_n 1, 1) := by decide +kernel
theorem dX4_split_74 : decode cX4_split 74 = .ok (.aaload, 1) := by decide +kernel
theorem dX4_split_75 : decode cX4_split 75 = .ok (.iload 4, 2) := by decide +kernel
theorem dX4_split_77 : decode cX4_split 77 = .ok (.invokevirtual 67, 3) := by decide +kernel
theorem dX4_split_80 : decode cX4_split 80 = .ok (.aastore, 1) := by decide +kernel
theorem dX4_split_81 : decode cX4_split 81 = .ok (.aload_n 0, 1) := by decide +kernel
theorem dX4_split_82 : decode cX4_split 82 = .ok (.getfield 9, 3) := by decide +kernel
theorem dX4_split_85 : decode cX4_split 85 = .ok (.iload_n 3, 1) := by decide +kernel
theorem dX4_split_86 : decode cX4_split 86 = .ok (.aload_n 0, 1) := by decide +kernel
theorem dX4_split_87 : decode cX4_split 87 = .ok (.getfield 9, 3) := by decide +kernel
theorem dX4_split_90 : decode cX4_split 90 = .ok (.iload_n 1, 1) := by decide +kernel
theorem dX4_split_91 : decode cX4_split 91 = .ok (.aaload, 1) := by decide +kernel
theorem dX4_split_92 : decode cX4_split 92 = .ok (.getfield 37, 3) := by decide +kernel
theorem dX4_split_95 : decode cX4_split 95 = .ok (.aastore, 1) := by decide +kernel
theorem dX4_split_96 : decode cX4_split 96 = .ok (.aload_n 0, 1) := by decide +kernel
theorem dX4_split_97 : decode cX4_split 97 = .ok (.getfield 9, 3) := by decide +kernel
theorem dX4_split_100 : decode cX4_split 100 = .ok (.iload_n 1, 1) := by decide +kernel
theorem dX4_split_101 : decode cX4_split 101 = .ok (.aaload, 1) := by decide +kernel
theorem dX4_split_102 : decode cX4_split 102 = .ok (.aconst_null, 1) := by decide +kernel
theorem dX4_split_103 : decode cX4_split 103 = .ok (.putfield 37, 3) := by decide +kernel
theorem dX4_split_106 : decode cX4_split 106 = .ok (.aload_n 0, 1) := by decide +kernel
theorem dX4_split_107 : decode cX4_split 107 = .ok (.getfield 9, 3) := by decide +kernel
theorem dX4_split_110 : decode cX4_split 110 = .ok (.iload_n 3, 1) := by decide +kernel
theorem dX4_split_111 : decode cX4_split 111 = .ok (.aaload, 1) := by decide +kernel
theorem dX4_split_112 : decode cX4_split 112 = .ok (.invokestatic 40, 3) := by decide +kernel
theorem dX4_split_115 : decode cX4_split 115 = .ok (.ireturn, 1) := by decide +kernel
set_option maxRecDepth 20000 in
theorem ggX4_fits_X4_most : GoodIn wsX4_fits wsX4_most := goodIn_r _ [5, 6, 7, 2, 3, 4, 14, 15, 16, 17] (by decide +kernel) (by decide +kernel)
set_option maxRecDepth 20000 in
theorem gX4_fits_X4_most : GoodIn wsX4_fits (va_wsS RX4 71 yX4_most wsX4_most) := goodIn_app (goodIn_of _ (by decide +kernel)) ggX4_fits_X4_most
set_option maxRecDepth 20000 in
theorem ggX4_fits_X4_least : GoodIn wsX4_fits wsX4_least := goodIn_r _ [10, 11, 7, 8, 9, 4, 14, 15, 16, 17] (by decide +kernel) (by decide +kernel)
set_option maxRecDepth 20000 in
theorem gX4_fits_X4_least : GoodIn wsX4_fits (va_wsS RX4 74 yX4_least wsX4_least) := goodIn_app (goodIn_of _ (by decide +kernel)) ggX4_fits_X4_least
theorem dX4_fits_0 : decode cX4_fits 0 = .ok (.iload_n 1, 1) := by decide +kernel
theorem dX4_fits_1 : decode cX4_fits 1 = .ok (.iload_n 2, 1) := by decide +kernel
theorem dX4_fits_2 : decode cX4_fits 2 = .ok (.if_icmp .eq 46, 3) := by decide +kernel
theorem dX4_fits_5 : decode cX4_fits 5 = .ok (.aload_n 0, 1) := by decide +kernel
theorem dX4_fits_6 : decode cX4_fits 6 = .ok (.getfield 9, 3) := by decide +kernel
theorem dX4_fits_9 : decode cX4_fits 9 = .ok (.iload_n 1, 1) := by decide +kernel
theorem dX4_fits_10 : decode cX4_fits 10 = .ok (.aaload, 1) := by decide +kernel
theorem dX4_fits_11 : decode cX4_fits 11 = .ok (.ifnull 33, 3) := by decide +kernel
theorem dX4_fits_14 : decode cX4_fits 14 = .ok (.aload_n 0, 1) := by decide +kernel
theorem dX4_fits_15 : decode cX4_fits 15 = .ok (.getfield 9, 3) := by decide +kernel
theorem dX4_fits_18 : decode cX4_fits 18 = .ok (.iload_n 2, 1) := by decide +kernel
theorem dX4_fits_19 : decode cX4_fits 19 = .ok (.aaload, 1) := by decide +kernel
theorem dX4_fits_20 : decode cX4_fits 20 = .ok (.ifnull 24, 3) := by decide +kernel
theorem dX4_fits_23 : decode cX4_fits 23 = .ok (.aload_n 0, 1) := by decide +kernel
theorem dX4_fits_24 : decode cX4_fits 24 = .ok (.getfield 9, 3) := by decide +kernel
theorem dX4_fits_27 : decode cX4_fits 27 = .ok (.iload_n 1, 1) := by decide +kernel
theorem dX4_fits_28 : decode cX4_fits 28 = .ok (.aaload, 1) := by decide +kernel
theorem dX4_fits_29 : decode cX4_fits 29 = .ok (.invokestatic 71, 3) := by decide +kernel
theorem dX4_fits_32 : decode cX4_fits 32 = .ok (.aload_n 0, 1) := by decide +kernel
theorem dX4_fits_33 : decode cX4_fits 33 = .ok (.getfield 9, 3) := by decide +kernel
theorem dX4_fits_36 : decode cX4_fits 36 = .ok (.iload_n 2, 1) := by decide +kernel
theorem dX4_fits_37 : decode cX4_fits 37 = .ok (.aaload, 1) := by decide +kernel
theorem dX4_fits_38 : decode cX4_fits 38 = .ok (.invokestatic 74, 3) := by decide +kernel
theorem dX4_fits_41 : decode cX4_fits 41 = .ok (.if_icmp .ge 7, 3) := by decide +kernel
theorem dX4_fits_44 : decode cX4_fits 44 = .ok (.iconst 1, 1) := by decide +kernel
theorem dX4_fits_45 : decode cX4_fits 45 = .ok (.goto 4, 3) := by decide +kernel
theorem dX4_fits_48 : decode cX4_fits 48 = .ok (.iconst 0, 1) := by decide +kernel
theorem dX4_fits_49 : decode cX4_fits 49 = .ok (.ireturn, 1) := by decide +kernel
set_option maxRecDepth 20000 in
theorem ggX4_join_X4_both : GoodIn wsX4_join wsX4_both := goodIn_r _ [6, 7, 8, 9, 5, 10, 11, 12, 13, 14, 15, 16, 17, 18, 19, 20, 21, 22, 23, 24, 25, 31, 32, 33, 34, 29, 30] (by decide +kernel) (by decide +kernel)
set_option maxRecDepth 20000 in
theorem gX4_join_X4_both : GoodIn wsX4_join (wsV RX4 77 RX4 yX4_both wsX4_both) := goodIn_app (goodIn_of _ (by decide +kernel)) ggX4_join_X4_both
set_option maxRecDepth 20000 in
theorem ggX4_join_X4_count : GoodIn wsX4_join wsX4_count := goodIn_r _ [28, 16, 7, 26, 27, 5, 31, 32, 33, 34] (by decide +kernel) (by decide +kernel)
set_option maxRecDepth 20000 in
theorem gX4_join_X4_count : GoodIn wsX4_join (va_wsS RX4 40 yX4_count wsX4_count) := goodIn_app (goodIn_of _ (by decide +kernel)) ggX4_join_X4_count
theorem dX4_join_0 : decode cX4_join 0 = .ok (.aload_n 0, 1) := by decide +kernel
theorem dX4_join_1 : decode cX4_join 1 = .ok (.getfield 9, 3) := by decide +kernel
theorem dX4_join_4 : decode cX4_join 4 = .ok (.iload_n 1, 1) := by decide +kernel
theorem dX4_join_5 : decode cX4_join 5 = .ok (.aload_n 0, 1) := by decide +kernel
theorem dX4_join_6 : decode cX4_join 6 = .ok (.aload_n 0, 1) := by decide +kernel
theorem dX4_join_7 : decode cX4_join 7 = .ok (.getfield 9, 3) := by decide +kernel
theorem dX4_join_10 : decode cX4_join 10 = .ok (.iload_n 1, 1) := by decide +kernel
theorem dX4_join_11 : decode cX4_join 11 = .ok (.aaload, 1) := by decide +kernel
theorem dX4_join_12 : decode cX4_join 12 = .ok (.aload_n 0, 1) := by decide +kernel
theorem dX4_join_13 : decode cX4_join 13 = .ok (.getfield 9, 3) := by decide +kernel
theorem dX4_join_16 : decode cX4_join 16 = .ok (.iload_n 2, 1) := by decide +kernel
theorem dX4_join_17 : decode cX4_join 17 = .ok (.aaload, 1) := by decide +kernel
theorem dX4_join_18 : decode cX4_join 18 = .ok (.invokevirtual 77, 3) := by decide +kernel
theorem dX4_join_21 : decode cX4_join 21 = .ok (.aastore, 1) := by decide +kernel
theorem dX4_join_22 : decode cX4_join 22 = .ok (.aload_n 0, 1) := by decide +kernel
theorem dX4_join_23 : decode cX4_join 23 = .ok (.getfield 9, 3) := by decide +kernel
theorem dX4_join_26 : decode cX4_join 26 = .ok (.iload_n 2, 1) := by decide +kernel
theorem dX4_join_27 : decode cX4_join 27 = .ok (.aconst_null, 1) := by decide +kernel
theorem dX4_join_28 : decode cX4_join 28 = .ok (.aastore, 1) := by decide +kernel
theorem dX4_join_29 : decode cX4_join 29 = .ok (.aload_n 0, 1) := by decide +kernel
theorem dX4_join_30 : decode cX4_join 30 = .ok (.getfield 9, 3) := by decide +kernel
theorem dX4_join_33 : decode cX4_join 33 = .ok (.iload_n 1, 1) := by decide +kernel
theorem dX4_join_34 : decode cX4_join 34 = .ok (.aaload, 1) := by decide +kernel
theorem dX4_join_35 : decode cX4_join 35 = .ok (.invokestatic 40, 3) := by decide +kernel
theorem dX4_join_38 : decode cX4_join 38 = .ok (.ireturn, 1) := by decide +kernel
set_option maxRecDepth 20000 in
theorem ggX4_order_X4_order : GoodIn wsX4_order wsX4_order := goodIn_r _ [0, 1, 2, 3, 4, 5, 6, 7, 8, 9] (by decide +kernel) (by decide +kernel)
set_option maxRecDepth 20000 in
theorem gX4_order_X4_order : GoodIn wsX4_order (va_wsS RX4 85 yX4_order wsX4_order) := goodIn_app (goodIn_of _ (by decide +kernel)) ggX4_order_X4_order
theorem dX4_order_0 : decode cX4_order 0 = .ok (.aload_n 0, 1) := by decide +kernel
theorem dX4_order_1 : decode cX4_order 1 = .ok (.ifnonnull 5, 3) := by decide +kernel
theorem dX4_order_4 : decode cX4_order 4 = .ok (.iload_n 2, 1) := by decide +kernel
theorem dX4_order_5 : decode cX4_order 5 = .ok (.ireturn, 1) := by decide +kernel
theorem dX4_order_6 : decode cX4_order 6 = .ok (.aload_n 0, 1) := by decide +kernel
theorem dX4_order_7 : decode cX4_order 7 = .ok (.getfield 33, 3) := by decide +kernel
theorem dX4_order_10 : decode cX4_order 10 = .ok (.aload_n 1, 1) := by decide +kernel
theorem dX4_order_11 : decode cX4_order 11 = .ok (.iload_n 2, 1) := by decide +kernel
theorem dX4_order_12 : decode cX4_order 12 = .ok (.invokestatic 85, 3) := by decide +kernel
theorem dX4_order_15 : decode cX4_order 15 = .ok (.istore_n 3, 1) := by decide +kernel
theorem dX4_order_16 : decode cX4_order 16 = .ok (.aload_n 1, 1) := by decide +kernel
theorem dX4_order_17 : decode cX4_order 17 = .ok (.iload_n 3, 1) := by decide +kernel
theorem dX4_order_18 : decode cX4_order 18 = .ok (.aload_n 0, 1) := by decide +kernel
theorem dX4_order_19 : decode cX4_order 19 = .ok (.aastore, 1) := by decide +kernel
theorem dX4_order_20 : decode cX4_order 20 = .ok (.aload_n 0, 1) := by decide +kernel
theorem dX4_order_21 : decode cX4_order 21 = .ok (.getfield 37, 3) := by decide +kernel
theorem dX4_order_24 : decode cX4_order 24 = .ok (.aload_n 1, 1) := by decide +kernel
theorem dX4_order_25 : decode cX4_order 25 = .ok (.iload_n 3, 1) := by decide +kernel
theorem dX4_order_26 : decode cX4_order 26 = .ok (.iconst 1, 1) := by decide +kernel
theorem dX4_order_27 : decode cX4_order 27 = .ok (.iadd, 1) := by decide +kernel
theorem dX4_order_28 : decode cX4_order 28 = .ok (.invokestatic 85, 3) := by decide +kernel
theorem dX4_order_31 : decode cX4_order 31 = .ok (.ireturn, 1) := by decide +kernel
set_option maxRecDepth 20000 in
theorem ggX4_isSame_X4_count : GoodIn wsX4_isSame wsX4_count := goodIn_r _ [11, 4, 5, 8, 9, 10, 205, 206, 207, 208] (by decide +kernel) (by decide +kernel)
set_option maxRecDepth 20000 in
theorem gX4_isSame_X4_count : GoodIn wsX4_isSame (va_wsS RX4 40 yX4_count wsX4_count) := goodIn_app (goodIn_of _ (by decide +kernel)) ggX4_isSame_X4_count
set_option maxRecDepth 20000 in
theorem ggX4_isSame_X4_order : GoodIn wsX4_isSame wsX4_order := goodIn_r _ [14, 4, 5, 12, 13, 10, 205, 206, 207, 208] (by decide +kernel) (by decide +kernel)
set_option maxRecDepth 20000 in
theorem gX4_isSame_X4_order : GoodIn wsX4_isSame (va_wsS RX4 85 yX4_order wsX4_order) := goodIn_app (goodIn_of _ (by decide +kernel)) ggX4_isSame_X4_order
set_option maxRecDepth 20000 in
theorem ggX4_isSame_X2_sizeOf : GoodIn wsX4_isSame wsX2_sizeOf := goodIn_ca (goodIn_r _ [19, 20, 21, 22, 18, 23, 24, 25, 26, 27, 28, 29, 30, 31, 32, 33, 34, 35, 36, 37, 38, 39, 40, 41, 42, 43, 44, 45, 46, 47, 48, 49, 50, 51, 52, 209, 210, 211, 212, 213, 214, 215, 216, 217, 218] (by decide +kernel) (by decide +kernel)) (goodIn_sub (fun _ h => List.mem_cons_of_mem _ (List.mem_append_left _ (List.mem_append_right _ h))) (by decide +kernel))
set_option maxRecDepth 20000 in
theorem gX4_isSame_X2_sizeOf : GoodIn wsX4_isSame (wsV RX4 89 RX2 yX2_sizeOf wsX2_sizeOf) := goodIn_app (goodIn_of _ (by decide +kernel)) ggX4_isSame_X2_sizeOf
set_option maxRecDepth 20000 in
theorem ggX4_isSame_X2_top : GoodIn wsX4_isSame wsX2_top := goodIn_ca (goodIn_r _ [56, 57, 20, 21, 22, 18, 23, 24, 25, 26, 58, 59, 60, 61, 212, 209, 210, 211, 213, 214, 215, 216, 217, 218] (by decide +kernel) (by decide +kernel)) (goodIn_sub (fun _ h => List.mem_cons_of_mem _ (List.mem_append_left _ (List.mem_append_right _ h))) (by decide +kernel))
set_option maxRecDepth 20000 in
theorem gX4_isSame_X2_top : GoodIn wsX4_isSame (wsV RX4 95 RX2 yX2_top wsX2_top) := goodIn_app (goodIn_of _ (by decide +kernel)) ggX4_isSame_X2_top
set_option maxRecDepth 20000 in
theorem ggX4_isSame_X2_height : GoodIn wsX4_isSame wsX2_height := goodIn_ca (goodIn_r _ [65, 20, 21, 22, 18, 23, 24, 25, 26, 66, 67, 68, 30, 69, 70, 71, 72, 73, 74, 75, 76, 77, 32, 78, 44, 45, 36, 46, 47, 79, 80, 81, 82, 52, 83, 49, 50, 51, 42, 43, 209, 210, 211, 212, 213, 214, 215, 216, 217, 218] (by decide +kernel) (by decide +kernel)) (goodIn_sub (fun _ h => List.mem_cons_of_mem _ (List.mem_append_left _ (List.mem_append_right _ h))) (by decide +kernel))
set_option maxRecDepth 20000 in
theorem gX4_isSame_X2_height : GoodIn wsX4_isSame (wsV RX4 98 RX2 yX2_height wsX2_height) := goodIn_app (goodIn_of _ (by decide +kernel)) ggX4_isSame_X2_height
set_option maxRecDepth 20000 in
theorem ggX4_isSame_X4_height : GoodIn wsX4_isSame wsX4_height := goodIn_r _ [86, 4, 5, 87, 71, 72, 73, 84, 85, 10, 205, 206, 207, 208] (by decide +kernel) (by decide +kernel)
set_option maxRecDepth 20000 in
theorem gX4_isSame_X4_height : GoodIn wsX4_isSame (va_wsS RX4 44 yX4_height wsX4_height) := goodIn_app (goodIn_of _ (by decide +kernel)) ggX4_isSame_X4_height
set_option maxRecDepth 20000 in
theorem ggX4_isSame_X2_depths : GoodIn wsX4_isSame wsX2_depths := goodIn_ca (goodIn_r _ [91, 20, 21, 22, 18, 23, 24, 25, 26, 92, 93, 94, 30, 95, 74, 75, 76, 77, 32, 78, 44, 45, 36, 46, 47, 79, 80, 81, 82, 52, 83, 49, 50, 51, 42, 43, 209, 210, 211, 212, 213, 214, 215, 216, 217, 218] (by decide +kernel) (by decide +kernel)) (goodIn_sub (fun _ h => List.mem_cons_of_mem _ (List.mem_append_left _ (List.mem_append_right _ h))) (by decide +kernel))
set_option maxRecDepth 20000 in
theorem gX4_isSame_X2_depths : GoodIn wsX4_isSame (wsV RX4 100 RX2 yX2_depths wsX2_depths) := goodIn_app (goodIn_of _ (by decide +kernel)) ggX4_isSame_X2_depths
set_option maxRecDepth 20000 in
theorem ggX4_isSame_X4_depths : GoodIn wsX4_isSame wsX4_depths := goodIn_r _ [98, 4, 5, 96, 97, 10, 8, 9, 11, 205, 206, 207, 208] (by decide +kernel) (by decide +kernel)
set_option maxRecDepth 20000 in
theorem gX4_isSame_X4_depths : GoodIn wsX4_isSame (va_wsS RX4 53 yX4_depths wsX4_depths) := goodIn_app (goodIn_of _ (by decide +kernel)) ggX4_isSame_X4_depths
set_option maxRecDepth 20000 in
theorem ggX4_isSame_X2_leaves : GoodIn wsX4_isSame wsX2_leaves := goodIn_ca (goodIn_r _ [102, 20, 21, 22, 18, 23, 24, 25, 26, 103, 104, 105, 30, 106, 107, 108, 74, 75, 76, 77, 32, 78, 44, 45, 36, 46, 47, 83, 49, 50, 51, 42, 52, 43, 209, 210, 211, 213, 214, 215, 216, 217, 218, 212] (by decide +kernel) (by decide +kernel)) (goodIn_sub (fun _ h => List.mem_cons_of_mem _ (List.mem_append_left _ (List.mem_append_right _ h))) (by decide +kernel))
set_option maxRecDepth 20000 in
theorem gX4_isSame_X2_leaves : GoodIn wsX4_isSame (wsV RX4 102 RX2 yX2_leaves wsX2_leaves) := goodIn_app (goodIn_of _ (by decide +kernel)) ggX4_isSame_X2_leaves
set_option maxRecDepth 20000 in
theorem ggX4_isSame_X4_leaves : GoodIn wsX4_isSame wsX4_leaves := goodIn_r _ [111, 4, 5, 109, 110, 10, 205, 206, 207, 208] (by decide +kernel) (by decide +kernel)
set_option maxRecDepth 20000 in
theorem gX4_isSame_X4_leaves : GoodIn wsX4_isSame (va_wsS RX4 56 yX4_leaves wsX4_leaves) := goodIn_app (goodIn_of _ (by decide +kernel)) ggX4_isSame_X4_leaves
set_option maxRecDepth 20000 in
theorem ggX4_isSame_X2_smallest : GoodIn wsX4_isSame wsX2_smallest := goodIn_ca (goodIn_r _ [115, 20, 21, 22, 18, 23, 24, 25, 26, 116, 75, 76, 30, 77, 32, 78, 44, 45, 36, 46, 47, 58, 59, 60, 61, 209, 210, 211, 212, 213, 214, 215, 216, 217, 218] (by decide +kernel) (by decide +kernel)) (goodIn_sub (fun _ h => List.mem_cons_of_mem _ (List.mem_append_left _ (List.mem_append_right _ h))) (by decide +kernel))
set_option maxRecDepth 20000 in
theorem gX4_isSame_X2_smallest : GoodIn wsX4_isSame (wsV RX4 104 RX2 yX2_smallest wsX2_smallest) := goodIn_app (goodIn_of _ (by decide +kernel)) ggX4_isSame_X2_smallest
set_option maxRecDepth 20000 in
theorem ggX4_isSame_X2_greatest : GoodIn wsX4_isSame wsX2_greatest := goodIn_ca (goodIn_r _ [120, 20, 21, 22, 18, 23, 24, 25, 26, 121, 122, 123, 30, 124, 32, 125, 39, 40, 36, 41, 42, 58, 59, 60, 61, 209, 210, 211, 212, 213, 214, 215, 216, 217, 218] (by decide +kernel) (by decide +kernel)) (goodIn_sub (fun _ h => List.mem_cons_of_mem _ (List.mem_append_left _ (List.mem_append_right _ h))) (by decide +kernel))
set_option maxRecDepth 20000 in
theorem gX4_isSame_X2_greatest : GoodIn wsX4_isSame (wsV RX4 107 RX2 yX2_greatest wsX2_greatest) := goodIn_app (goodIn_of _ (by decide +kernel)) ggX4_isSame_X2_greatest
set_option maxRecDepth 20000 in
theorem ggX4_isSame_X2_meanDepth : GoodIn wsX4_isSame wsX2_meanDepth := goodIn_ca (goodIn_r _ [129, 20, 21, 22, 18, 23, 24, 25, 26, 27, 28, 29, 30, 31, 32, 33, 34, 35, 36, 37, 38, 39, 40, 41, 42, 43, 44, 45, 46, 47, 48, 49, 50, 51, 52, 92, 93, 94, 95, 74, 75, 76, 77, 78, 79, 80, 81, 82, 83, 209, 210, 211, 212, 213, 214, 215, 216, 217, 218] (by decide +kernel) (by decide +kernel)) (goodIn_sub (fun _ h => List.mem_cons_of_mem _ (List.mem_append_left _ (List.mem_append_right _ h))) (by decide +kernel))
set_option maxRecDepth 20000 in
theorem gX4_isSame_X2_meanDepth : GoodIn wsX4_isSame (wsV RX4 110 RX2 yX2_meanDepth wsX2_meanDepth) := goodIn_app (goodIn_of _ (by decide +kernel)) ggX4_isSame_X2_meanDepth
set_option maxRecDepth 20000 in
theorem ggX4_isSame_X4_path : GoodIn wsX4_isSame wsX4_path := goodIn_r _ [132, 3, 4, 5, 2, 205, 206, 207, 208] (by decide +kernel) (by decide +kernel)
set_option maxRecDepth 20000 in
theorem gX4_isSame_X4_path : GoodIn wsX4_isSame (va_wsS RX4 59 yX4_path wsX4_path) := goodIn_app (goodIn_of _ (by decide +kernel)) ggX4_isSame_X4_path
set_option maxRecDepth 20000 in
theorem ggX4_isSame_X2_inOrder : GoodIn wsX4_isSame wsX2_inOrder := goodIn_ca (goodIn_r _ [136, 24, 25, 61, 20, 21, 22, 18, 23, 26, 137, 138, 139, 30, 140, 74, 75, 76, 77, 32, 78, 44, 45, 36, 46, 47, 83, 49, 50, 51, 42, 52, 43, 213, 214, 215, 216, 217, 218, 209, 210, 211, 212] (by decide +kernel) (by decide +kernel)) (goodIn_sub (fun _ h => List.mem_cons_of_mem _ (List.mem_append_left _ (List.mem_append_right _ h))) (by decide +kernel))
set_option maxRecDepth 20000 in
theorem gX4_isSame_X2_inOrder : GoodIn wsX4_isSame (wsV RX4 114 RX2 yX2_inOrder wsX2_inOrder) := goodIn_app (goodIn_of _ (by decide +kernel)) ggX4_isSame_X2_inOrder
set_option maxRecDepth 20000 in
theorem ggX4_isSame_X2_depthOf : GoodIn wsX4_isSame wsX2_depthOf := goodIn_ca (goodIn_ca (goodIn_r _ [144, 20, 21, 22, 18, 23, 24, 25, 26, 145, 146, 147, 148, 149, 150, 151, 152, 30, 153, 154, 155, 156, 157, 158, 32, 159, 160, 161, 36, 162, 163, 47, 42, 164, 80, 81, 82, 52, 209, 210, 211, 213, 214, 215, 216, 217, 218, 212] (by decide +kernel) (by decide +kernel)) (goodIn_sub (fun _ h => List.mem_cons_of_mem _ (List.mem_append_left _ (List.mem_append_right _ h))) (by decide +kernel))) (goodIn_sub (fun _ h => List.mem_cons_of_mem _ (List.mem_append_right _ h)) (by decide +kernel))
set_option maxRecDepth 20000 in
theorem gX4_isSame_X2_depthOf : GoodIn wsX4_isSame (wsV RX4 117 RX2 yX2_depthOf wsX2_depthOf) := goodIn_app (goodIn_of _ (by decide +kernel)) ggX4_isSame_X2_depthOf
set_option maxRecDepth 20000 in
theorem ggX4_isSame_X2_above : GoodIn wsX4_isSame wsX2_above := goodIn_ca (goodIn_ca (goodIn_r _ [168, 169, 20, 21, 22, 18, 23, 24, 25, 26, 145, 146, 147, 148, 149, 150, 151, 152, 30, 153, 154, 155, 156, 157, 158, 32, 159, 160, 161, 36, 162, 163, 47, 42, 58, 59, 60, 61, 213, 214, 215, 216, 217, 218, 209, 210, 211, 212] (by decide +kernel) (by decide +kernel)) (goodIn_sub (fun _ h => List.mem_cons_of_mem _ (List.mem_append_left _ (List.mem_append_right _ h))) (by decide +kernel))) (goodIn_sub (fun _ h => List.mem_cons_of_mem _ (List.mem_append_right _ h)) (by decide +kernel))
set_option maxRecDepth 20000 in
theorem gX4_isSame_X2_above : GoodIn wsX4_isSame (wsV RX4 120 RX2 yX2_above wsX2_above) := goodIn_app (goodIn_of _ (by decide +kernel)) ggX4_isSame_X2_above
set_option maxRecDepth 20000 in
theorem ggX4_isSame_X2_leftOf : GoodIn wsX4_isSame wsX2_leftOf := goodIn_ca (goodIn_ca (goodIn_r _ [173, 174, 20, 21, 22, 18, 23, 24, 25, 26, 145, 146, 147, 148, 149, 150, 151, 152, 30, 153, 154, 155, 156, 157, 158, 32, 159, 160, 161, 36, 162, 163, 47, 42, 58, 59, 60, 61, 213, 214, 215, 216, 217, 218, 209, 210, 211, 212] (by decide +kernel) (by decide +kernel)) (goodIn_sub (fun _ h => List.mem_cons_of_mem _ (List.mem_append_left _ (List.mem_append_right _ h))) (by decide +kernel))) (goodIn_sub (fun _ h => List.mem_cons_of_mem _ (List.mem_append_right _ h)) (by decide +kernel))
set_option maxRecDepth 20000 in
theorem gX4_isSame_X2_leftOf : GoodIn wsX4_isSame (wsV RX4 123 RX2 yX2_leftOf wsX2_leftOf) := goodIn_app (goodIn_of _ (by decide +kernel)) ggX4_isSame_X2_leftOf
set_option maxRecDepth 20000 in
theorem ggX4_isSame_X2_rightOf : GoodIn wsX4_isSame wsX2_rightOf := goodIn_ca (goodIn_ca (goodIn_r _ [178, 179, 20, 21, 22, 18, 23, 24, 25, 26, 145, 146, 147, 148, 149, 150, 151, 152, 30, 153, 154, 155, 156, 157, 158, 32, 159, 160, 161, 36, 162, 163, 47, 42, 58, 59, 60, 61, 213, 214, 215, 216, 217, 218, 209, 210, 211, 212] (by decide +kernel) (by decide +kernel)) (goodIn_sub (fun _ h => List.mem_cons_of_mem _ (List.mem_append_left _ (List.mem_append_right _ h))) (by decide +kernel))) (goodIn_sub (fun _ h => List.mem_cons_of_mem _ (List.mem_append_right _ h)) (by decide +kernel))
set_option maxRecDepth 20000 in
theorem gX4_isSame_X2_rightOf : GoodIn wsX4_isSame (wsV RX4 126 RX2 yX2_rightOf wsX2_rightOf) := goodIn_app (goodIn_of _ (by decide +kernel)) ggX4_isSame_X2_rightOf
set_option maxRecDepth 20000 in
theorem ggX4_isSame_X2_below : GoodIn wsX4_isSame wsX2_below := goodIn_ca (goodIn_ca (goodIn_r _ [183, 20, 21, 22, 18, 23, 24, 25, 26, 145, 146, 147, 148, 149, 150, 151, 152, 30, 153, 154, 155, 156, 157, 158, 32, 159, 160, 161, 36, 162, 163, 47, 42, 184, 34, 35, 37, 38, 39, 40, 41, 43, 44, 45, 46, 48, 49, 50, 51, 52, 209, 210, 211, 213, 214, 215, 216, 217, 218, 212] (by decide +kernel) (by decide +kernel)) (goodIn_sub (fun _ h => List.mem_cons_of_mem _ (List.mem_append_left _ (List.mem_append_right _ h))) (by decide +kernel))) (goodIn_sub (fun _ h => List.mem_cons_of_mem _ (List.mem_append_right _ h)) (by decide +kernel))
set_option maxRecDepth 20000 in
theorem gX4_isSame_X2_below : GoodIn wsX4_isSame (wsV RX4 129 RX2 yX2_below wsX2_below) := goodIn_app (goodIn_of _ (by decide +kernel)) ggX4_isSame_X2_below
set_option maxRecDepth 20000 in
theorem ggX4_isSame_X2_eaten : GoodIn wsX4_isSame wsX2_eaten := goodIn_ca (goodIn_ca (goodIn_r _ [188, 189, 20, 21, 22, 18, 23, 24, 25, 26, 145, 146, 147, 148, 149, 150, 151, 152, 30, 153, 154, 155, 156, 157, 158, 32, 159, 160, 161, 36, 162, 163, 47, 42, 213, 214, 215, 216, 217, 218, 209, 210, 211, 212] (by decide +kernel) (by decide +kernel)) (goodIn_sub (fun _ h => List.mem_cons_of_mem _ (List.mem_append_left _ (List.mem_append_right _ h))) (by decide +kernel))) (goodIn_sub (fun _ h => List.mem_cons_of_mem _ (List.mem_append_right _ h)) (by decide +kernel))
set_option maxRecDepth 20000 in
theorem gX4_isSame_X2_eaten : GoodIn wsX4_isSame (wsV RX4 132 RX2 yX2_eaten wsX2_eaten) := goodIn_app (goodIn_of _ (by decide +kernel)) ggX4_isSame_X2_eaten
set_option maxRecDepth 20000 in
theorem ggX4_isSame_X2_apples : GoodIn wsX4_isSame wsX2_apples := goodIn_r _ [193, 26, 27, 28, 29, 30, 31, 32, 33, 34, 35, 36, 37, 38, 39, 40, 41, 42, 43, 44, 45, 46, 47, 48, 49, 50, 51, 52, 209, 210, 211, 212, 213, 214, 215, 216, 217, 218] (by decide +kernel) (by decide +kernel)
set_option maxRecDepth 20000 in
theorem gX4_isSame_X2_apples : GoodIn wsX4_isSame (wsV RX4 134 RX2 yX2_apples wsX2_apples) := goodIn_app (goodIn_of _ (by decide +kernel)) ggX4_isSame_X2_apples
set_option maxRecDepth 20000 in
theorem ggX4_isSame_X4_all : GoodIn wsX4_isSame wsX4_all := goodIn_r _ [197, 1, 8, 9, 10, 11, 4, 5, 203, 204, 205, 206, 207, 208] (by decide +kernel) (by decide +kernel)
set_option maxRecDepth 20000 in
theorem gX4_isSame_X4_all : GoodIn wsX4_isSame (wsV RX4 138 RX4 yX4_all wsX4_all) := goodIn_app (goodIn_of _ (by decide +kernel)) ggX4_isSame_X4_all
set_option maxRecDepth 20000 in
theorem ggX4_isSame_X2_turnings : GoodIn wsX4_isSame wsX2_turnings := goodIn_r _ [201, 202, 209, 210, 211] (by decide +kernel) (by decide +kernel)
set_option maxRecDepth 20000 in
theorem gX4_isSame_X2_turnings : GoodIn wsX4_isSame (wsV RX4 141 RX2 yX2_turnings wsX2_turnings) := goodIn_app (goodIn_of _ (by decide +kernel)) ggX4_isSame_X2_turnings
theorem dX4_isSame_0 : decode cX4_isSame 0 = .ok (.iconst 0, 1) := by decide +kernel
theorem dX4_isSame_1 : decode cX4_isSame 1 = .ok (.istore_n 2, 1) := by decide +kernel
theorem dX4_isSame_2 : decode cX4_isSame 2 = .ok (.iload_n 2, 1) := by decide +kernel
theorem dX4_isSame_3 : decode cX4_isSame 3 = .ok (.bipush 6, 2) := by decide +kernel
theorem dX4_isSame_5 : decode cX4_isSame 5 = .ok (.if_icmp .ge 392, 3) := by decide +kernel
theorem dX4_isSame_8 : decode cX4_isSame 8 = .ok (.aload_n 0, 1) := by decide +kernel
theorem dX4_isSame_9 : decode cX4_isSame 9 = .ok (.getfield 9, 3) := by decide +kernel
theorem dX4_isSame_12 : decode cX4_isSame 12 = .ok (.iload_n 2, 1) := by decide +kernel
theorem dX4_isSame_13 : decode cX4_isSame 13 = .ok (.aaload, 1) := by decide +kernel
theorem dX4_isSame_14 : decode cX4_isSame 14 = .ok (.astore_n 3, 1) := by decide +kernel
theorem dX4_isSame_15 : decode cX4_isSame 15 = .ok (.aload_n 3, 1) := by decide +kernel
theorem dX4_isSame_16 : decode cX4_isSame 16 = .ok (.invokestatic 40, 3) := by decide +kernel
theorem dX4_isSame_19 : decode cX4_isSame 19 = .ok (.istore 4, 2) := by decide +kernel
theorem dX4_isSame_21 : decode cX4_isSame 21 = .ok (.iload 4, 2) := by decide +kernel
theorem dX4_isSame_23 : decode cX4_isSame 23 = .ok (.anewarray 7, 3) := by decide +kernel
theorem dX4_isSame_26 : decode cX4_isSame 26 = .ok (.astore 5, 2) := by decide +kernel
theorem dX4_isSame_28 : decode cX4_isSame 28 = .ok (.aload_n 3, 1) := by decide +kernel
theorem dX4_isSame_29 : decode cX4_isSame 29 = .ok (.aload 5, 2) := by decide +kernel
theorem dX4_isSame_31 : decode cX4_isSame 31 = .ok (.iconst 0, 1) := by decide +kernel
theorem dX4_isSame_32 : decode cX4_isSame 32 = .ok (.invokestatic 85, 3) := by decide +kernel
theorem dX4_isSame_35 : decode cX4_isSame 35 = .ok (.pop, 1) := by decide +kernel
theorem dX4_isSame_36 : decode cX4_isSame 36 = .ok (.aload_n 1, 1) := by decide +kernel
theorem dX4_isSame_37 : decode cX4_isSame 37 = .ok (.iload_n 2, 1) := by decide +kernel
theorem dX4_isSame_38 : decode cX4_isSame 38 = .ok (.invokevirtual 89, 3) := by decide +kernel
theorem dX4_isSame_41 : decode cX4_isSame 41 = .ok (.iload 4, 2) := by decide +kernel
theorem dX4_isSame_43 : decode cX4_isSame 43 = .ok (.if_icmp .ne 138, 3) := by decide +kernel
theorem dX4_isSame_46 : decode cX4_isSame 46 = .ok (.aload_n 1, 1) := by decide +kernel
theorem dX4_isSame_47 : decode cX4_isSame 47 = .ok (.iload_n 2, 1) := by decide +kernel
theorem dX4_isSame_48 : decode cX4_isSame 48 = .ok (.invokevirtual 95, 3) := by decide +kernel
theorem dX4_isSame_51 : decode cX4_isSame 51 = .ok (.iload 4, 2) := by decide +kernel
theorem dX4_isSame_53 : decode cX4_isSame 53 = .ok (.ifCond .ne 7, 3) := by decide +kernel
theorem dX4_isSame_56 : decode cX4_isSame 56 = .ok (.iconst (-1), 1) := by decide +kernel
theorem dX4_isSame_57 : decode cX4_isSame 57 = .ok (.goto 7, 3) := by decide +kernel
theorem dX4_isSame_60 : decode cX4_isSame 60 = .ok (.aload_n 3, 1) := by decide +kernel
theorem dX4_isSame_61 : decode cX4_isSame 61 = .ok (.getfield 24, 3) := by decide +kernel
theorem dX4_isSame_64 : decode cX4_isSame 64 = .ok (.if_icmp .ne 117, 3) := by decide +kernel
theorem dX4_isSame_67 : decode cX4_isSame 67 = .ok (.aload_n 1, 1) := by decide +kernel
theorem dX4_isSame_68 : decode cX4_isSame 68 = .ok (.iload_n 2, 1) := by decide +kernel
theorem dX4_isSame_69 : decode cX4_isSame 69 = .ok (.invokevirtual 98, 3) := by decide +kernel
theorem dX4_isSame_72 : decode cX4_isSame 72 = .ok (.aload_n 3, 1) := by decide +kernel
theorem dX4_isSame_73 : decode cX4_isSame 73 = .ok (.invokestatic 44, 3) := by decide +kernel
theorem dX4_isSame_76 : decode cX4_isSame 76 = .ok (.if_icmp .ne 105, 3) := by decide +kernel
theorem dX4_isSame_79 : decode cX4_isSame 79 = .ok (.aload_n 1, 1) := by decide +kernel
theorem dX4_isSame_80 : decode cX4_isSame 80 = .ok (.iload_n 2, 1) := by decide +kernel
theorem dX4_isSame_81 : decode cX4_isSame 81 = .ok (.invokevirtual 100, 3) := by decide +kernel
theorem dX4_isSame_84 : decode cX4_isSame 84 = .ok (.aload_n 3, 1) := by decide +kernel
theorem dX4_isSame_85 : decode cX4_isSame 85 = .ok (.invokestatic 53, 3) := by decide +kernel
theorem dX4_isSame_88 : decode cX4_isSame 88 = .ok (.if_icmp .ne 93, 3) := by decide +kernel
theorem dX4_isSame_91 : decode cX4_isSame 91 = .ok (.aload_n 1, 1) := by decide +kernel
theorem dX4_isSame_92 : decode cX4_isSame 92 = .ok (.iload_n 2, 1) := by decide +kernel
theorem dX4_isSame_93 : decode cX4_isSame 93 = .ok (.invokevirtual 102, 3) := by decide +kernel
theorem dX4_isSame_96 : decode cX4_isSame 96 = .ok (.aload_n 3, 1) := by decide +kernel
theorem dX4_isSame_97 : decode cX4_isSame 97 = .ok (.invokestatic 56, 3) := by decide +kernel
theorem dX4_isSame_100 : decode cX4_isSame 100 = .ok (.if_icmp .ne 81, 3) := by decide +kernel
theorem dX4_isSame_103 : decode cX4_isSame 103 = .ok (.aload_n 1, 1) := by decide +kernel
theorem dX4_isSame_104 : decode cX4_isSame 104 = .ok (.iload_n 2, 1) := by decide +kernel
theorem dX4_isSame_105 : decode cX4_isSame 105 = .ok (.invokevirtual 104, 3) := by decide +kernel
theorem dX4_isSame_108 : decode cX4_isSame 108 = .ok (.iload 4, 2) := by decide +kernel
theorem dX4_isSame_110 : decode cX4_isSame 110 = .ok (.ifCond .ne 7, 3) := by decide +kernel
theorem dX4_isSame_113 : decode cX4_isSame 113 = .ok (.iconst (-1), 1) := by decide +kernel
theorem dX4_isSame_114 : decode cX4_isSame 114 = .ok (.goto 10, 3) := by decide +kernel
theorem dX4_isSame_117 : decode cX4_isSame 117 = .ok (.aload 5, 2) := by decide +kernel
theorem dX4_isSame_119 : decode cX4_isSame 119 = .ok (.iconst 0, 1) := by decide +kernel
theorem dX4_isSame_120 : decode cX4_isSame 120 = .ok (.aaload, 1) := by decide +kernel
theorem dX4_isSame_121 : decode cX4_isSame 121 = .ok (.getfield 24, 3) := by decide +kernel
theorem dX4_isSame_124 : decode cX4_isSame 124 = .ok (.if_icmp .ne 57, 3) := by decide +kernel
theorem dX4_isSame_127 : decode cX4_isSame 127 = .ok (.aload_n 1, 1) := by decide +kernel
theorem dX4_isSame_128 : decode cX4_isSame 128 = .ok (.iload_n 2, 1) := by decide +kernel
theorem dX4_isSame_129 : decode cX4_isSame 129 = .ok (.invokevirtual 107, 3) := by decide +kernel
theorem dX4_isSame_132 : decode cX4_isSame 132 = .ok (.iload 4, 2) := by decide +kernel
theorem dX4_isSame_134 : decode cX4_isSame 134 = .ok (.ifCond .ne 7, 3) := by decide +kernel
theorem dX4_isSame_137 : decode cX4_isSame 137 = .ok (.iconst (-1), 1) := by decide +kernel
theorem dX4_isSame_138 : decode cX4_isSame 138 = .ok (.goto 13, 3) := by decide +kernel
theorem dX4_isSame_141 : decode cX4_isSame 141 = .ok (.aload 5, 2) := by decide +kernel
theorem dX4_isSame_143 : decode cX4_isSame 143 = .ok (.iload 4, 2) := by decide +kernel
theorem dX4_isSame_145 : decode cX4_isSame 145 = .ok (.iconst 1, 1) := by decide +kernel
theorem dX4_isSame_146 : decode cX4_isSame 146 = .ok (.isub, 1) := by decide +kernel
theorem dX4_isSame_147 : decode cX4_isSame 147 = .ok (.aaload, 1) := by decide +kernel
theorem dX4_isSame_148 : decode cX4_isSame 148 = .ok (.getfield 24, 3) := by decide +kernel
theorem dX4_isSame_151 : decode cX4_isSame 151 = .ok (.if_icmp .ne 30, 3) := by decide +kernel
theorem dX4_isSame_154 : decode cX4_isSame 154 = .ok (.aload_n 1, 1) := by decide +kernel
theorem dX4_isSame_155 : decode cX4_isSame 155 = .ok (.iload_n 2, 1) := by decide +kernel
theorem dX4_isSame_156 : decode cX4_isSame 156 = .ok (.invokevirtual 110, 3) := by decide +kernel
theorem dX4_isSame_159 : decode cX4_isSame 159 = .ok (.iload 4, 2) := by decide +kernel
theorem dX4_isSame_161 : decode cX4_isSame 161 = .ok (.ifCond .ne 7, 3) := by decide +kernel
theorem dX4_isSame_164 : decode cX4_isSame 164 = .ok (.dconst 0, 1) := by decide +kernel
theorem dX4_isSame_165 : decode cX4_isSame 165 = .ok (.goto 12, 3) := by decide +kernel
theorem dX4_isSame_168 : decode cX4_isSame 168 = .ok (.aload_n 3, 1) := by decide +kernel
theorem dX4_isSame_169 : decode cX4_isSame 169 = .ok (.invokestatic 53, 3) := by decide +kernel
theorem dX4_isSame_172 : decode cX4_isSame 172 = .ok (.i2d, 1) := by decide +kernel
theorem dX4_isSame_173 : decode cX4_isSame 173 = .ok (.iload 4, 2) := by decide +kernel
theorem dX4_isSame_175 : decode cX4_isSame 175 = .ok (.i2d, 1) := by decide +kernel
theorem dX4_isSame_176 : decode cX4_isSame 176 = .ok (.ddiv, 1) := by decide +kernel
theorem dX4_isSame_177 : decode cX4_isSame 177 = .ok (.dcmp .l, 1) := by decide +kernel
theorem dX4_isSame_178 : decode cX4_isSame 178 = .ok (.ifCond .eq 5, 3) := by decide +kernel
theorem dX4_isSame_181 : decode cX4_isSame 181 = .ok (.iconst 0, 1) := by decide +kernel
theorem dX4_isSame_182 : decode cX4_isSame 182 = .ok (.ireturn, 1) := by decide +kernel
theorem dX4_isSame_183 : decode cX4_isSame 183 = .ok (.iconst 0, 1) := by decide +kernel
theorem dX4_isSame_184 : decode cX4_isSame 184 = .ok (.istore 6, 2) := by decide +kernel
theorem dX4_isSame_186 : decode cX4_isSame 186 = .ok (.iload 6, 2) := by decide +kernel
theorem dX4_isSame_188 : decode cX4_isSame 188 = .ok (.iload 4, 2) := by decide +kernel
theorem dX4_isSame_190 : decode cX4_isSame 190 = .ok (.if_icmp .ge 201, 3) := by decide +kernel
theorem dX4_isSame_193 : decode cX4_isSame 193 = .ok (.aload 5, 2) := by decide +kernel
theorem dX4_isSame_195 : decode cX4_isSame 195 = .ok (.iload 6, 2) := by decide +kernel
theorem dX4_isSame_197 : decode cX4_isSame 197 = .ok (.aaload, 1) := by decide +kernel
theorem dX4_isSame_198 : decode cX4_isSame 198 = .ok (.astore 7, 2) := by decide +kernel
theorem dX4_isSame_200 : decode cX4_isSame 200 = .ok (.aload_n 3, 1) := by decide +kernel
theorem dX4_isSame_201 : decode cX4_isSame 201 = .ok (.aload 7, 2) := by decide +kernel
theorem dX4_isSame_203 : decode cX4_isSame 203 = .ok (.getfield 24, 3) := by decide +kernel
theorem dX4_isSame_206 : decode cX4_isSame 206 = .ok (.invokestatic 59, 3) := by decide +kernel
theorem dX4_isSame_209 : decode cX4_isSame 209 = .ok (.astore 8, 2) := by decide +kernel
theorem dX4_isSame_211 : decode cX4_isSame 211 = .ok (.aload_n 1, 1) := by decide +kernel
theorem dX4_isSame_212 : decode cX4_isSame 212 = .ok (.iload_n 2, 1) := by decide +kernel
theorem dX4_isSame_213 : decode cX4_isSame 213 = .ok (.iload 6, 2) := by decide +kernel
theorem dX4_isSame_215 : decode cX4_isSame 215 = .ok (.invokevirtual 114, 3) := by decide +kernel
theorem dX4_isSame_218 : decode cX4_isSame 218 = .ok (.aload 7, 2) := by decide +kernel
theorem dX4_isSame_220 : decode cX4_isSame 220 = .ok (.getfield 24, 3) := by decide +kernel
theorem dX4_isSame_223 : decode cX4_isSame 223 = .ok (.if_icmp .ne 160, 3) := by decide +kernel
theorem dX4_isSame_226 : decode cX4_isSame 226 = .ok (.aload_n 1, 1) := by decide +kernel
theorem dX4_isSame_227 : decode cX4_isSame 227 = .ok (.iload_n 2, 1) := by decide +kernel
theorem dX4_isSame_228 : decode cX4_isSame 228 = .ok (.aload 7, 2) := by decide +kernel
theorem dX4_isSame_230 : decode cX4_isSame 230 = .ok (.getfield 24, 3) := by decide +kernel
theorem dX4_isSame_233 : decode cX4_isSame 233 = .ok (.invokevirtual 117, 3) := by decide +kernel
theorem dX4_isSame_236 : decode cX4_isSame 236 = .ok (.aload 8, 2) := by decide +kernel
theorem dX4_isSame_238 : decode cX4_isSame 238 = .ok (.arraylength, 1) := by decide +kernel
theorem dX4_isSame_239 : decode cX4_isSame 239 = .ok (.iconst 1, 1) := by decide +kernel
theorem dX4_isSame_240 : decode cX4_isSame 240 = .ok (.isub, 1) := by decide +kernel
theorem dX4_isSame_241 : decode cX4_isSame 241 = .ok (.if_icmp .ne 142, 3) := by decide +kernel
theorem dX4_isSame_244 : decode cX4_isSame 244 = .ok (.aload_n 1, 1) := by decide +kernel
theorem dX4_isSame_245 : decode cX4_isSame 245 = .ok (.iload_n 2, 1) := by decide +kernel
theorem dX4_isSame_246 : decode cX4_isSame 246 = .ok (.aload 7, 2) := by decide +kernel
theorem dX4_isSame_248 : decode cX4_isSame 248 = .ok (.getfield 24, 3) := by decide +kernel
theorem dX4_isSame_251 : decode cX4_isSame 251 = .ok (.invokevirtual 120, 3) := by decide +kernel
theorem dX4_isSame_254 : decode cX4_isSame 254 = .ok (.aload 8, 2) := by decide +kernel
theorem dX4_isSame_256 : decode cX4_isSame 256 = .ok (.arraylength, 1) := by decide +kernel
theorem dX4_isSame_257 : decode cX4_isSame 257 = .ok (.iconst 2, 1) := by decide +kernel
theorem dX4_isSame_258 : decode cX4_isSame 258 = .ok (.if_icmp .ge 7, 3) := by decide +kernel
theorem dX4_isSame_261 : decode cX4_isSame 261 = .ok (.iconst (-1), 1) := by decide +kernel
theorem dX4_isSame_262 : decode cX4_isSame 262 = .ok (.goto 14, 3) := by decide +kernel
theorem dX4_isSame_265 : decode cX4_isSame 265 = .ok (.aload 8, 2) := by decide +kernel
theorem dX4_isSame_267 : decode cX4_isSame 267 = .ok (.aload 8, 2) := by decide +kernel
theorem dX4_isSame_269 : decode cX4_isSame 269 = .ok (.arraylength, 1) := by decide +kernel
theorem dX4_isSame_270 : decode cX4_isSame 270 = .ok (.iconst 2, 1) := by decide +kernel
theorem dX4_isSame_271 : decode cX4_isSame 271 = .ok (.isub, 1) := by decide +kernel
theorem dX4_isSame_272 : decode cX4_isSame 272 = .ok (.aaload, 1) := by decide +kernel
theorem dX4_isSame_273 : decode cX4_isSame 273 = .ok (.getfield 24, 3) := by decide +kernel
theorem dX4_isSame_276 : decode cX4_isSame 276 = .ok (.if_icmp .ne 107, 3) := by decide +kernel
theorem dX4_isSame_279 : decode cX4_isSame 279 = .ok (.aload_n 1, 1) := by decide +kernel
theorem dX4_isSame_280 : decode cX4_isSame 280 = .ok (.iload_n 2, 1) := by decide +kernel
theorem dX4_isSame_281 : decode cX4_isSame 281 = .ok (.aload 7, 2) := by decide +kernel
theorem dX4_isSame_283 : decode cX4_isSame 283 = .ok (.getfield 24, 3) := by decide +kernel
theorem dX4_isSame_286 : decode cX4_isSame 286 = .ok (.invokevirtual 123, 3) := by decide +kernel
theorem dX4_isSame_289 : decode cX4_isSame 289 = .ok (.aload 7, 2) := by decide +kernel
theorem dX4_isSame_291 : decode cX4_isSame 291 = .ok (.getfield 33, 3) := by decide +kernel
theorem dX4_isSame_294 : decode cX4_isSame 294 = .ok (.ifnonnull 7, 3) := by decide +kernel
theorem dX4_isSame_297 : decode cX4_isSame 297 = .ok (.iconst (-1), 1) := by decide +kernel
theorem dX4_isSame_298 : decode cX4_isSame 298 = .ok (.goto 11, 3) := by decide +kernel
theorem dX4_isSame_301 : decode cX4_isSame 301 = .ok (.aload 7, 2) := by decide +kernel
theorem dX4_isSame_303 : decode cX4_isSame 303 = .ok (.getfield 33, 3) := by decide +kernel
theorem dX4_isSame_306 : decode cX4_isSame 306 = .ok (.getfield 24, 3) := by decide +kernel
theorem dX4_isSame_309 : decode cX4_isSame 309 = .ok (.if_icmp .ne 74, 3) := by decide +kernel
theorem dX4_isSame_312 : decode cX4_isSame 312 = .ok (.aload_n 1, 1) := by decide +kernel
theorem dX4_isSame_313 : decode cX4_isSame 313 = .ok (.iload_n 2, 1) := by decide +kernel
theorem dX4_isSame_314 : decode cX4_isSame 314 = .ok (.aload 7, 2) := by decide +kernel
theorem dX4_isSame_316 : decode cX4_isSame 316 = .ok (.getfield 24, 3) := by decide +kernel
theorem dX4_isSame_319 : decode cX4_isSame 319 = .ok (.invokevirtual 126, 3) := by decide +kernel
theorem dX4_isSame_322 : decode cX4_isSame 322 = .ok (.aload 7, 2) := by decide +kernel
theorem dX4_isSame_324 : decode cX4_isSame 324 = .ok (.getfield 37, 3) := by decide +kernel
theorem dX4_isSame_327 : decode cX4_isSame 327 = .ok (.ifnonnull 7, 3) := by decide +kernel
theorem dX4_isSame_330 : decode cX4_isSame 330 = .ok (.iconst (-1), 1) := by decide +kernel
theorem dX4_isSame_331 : decode cX4_isSame 331 = .ok (.goto 11, 3) := by decide +kernel
theorem dX4_isSame_334 : decode cX4_isSame 334 = .ok (.aload 7, 2) := by decide +kernel
theorem dX4_isSame_336 : decode cX4_isSame 336 = .ok (.getfield 37, 3) := by decide +kernel
theorem dX4_isSame_339 : decode cX4_isSame 339 = .ok (.getfield 24, 3) := by decide +kernel
theorem dX4_isSame_342 : decode cX4_isSame 342 = .ok (.if_icmp .ne 41, 3) := by decide +kernel
theorem dX4_isSame_345 : decode cX4_isSame 345 = .ok (.aload_n 1, 1) := by decide +kernel
theorem dX4_isSame_346 : decode cX4_isSame 346 = .ok (.iload_n 2, 1) := by decide +kernel
theorem dX4_isSame_347 : decode cX4_isSame 347 = .ok (.aload 7, 2) := by decide +kernel
theorem dX4_isSame_349 : decode cX4_isSame 349 = .ok (.getfield 24, 3) := by decide +kernel
theorem dX4_isSame_352 : decode cX4_isSame 352 = .ok (.invokevirtual 129, 3) := by decide +kernel
theorem dX4_isSame_355 : decode cX4_isSame 355 = .ok (.aload 7, 2) := by decide +kernel
theorem dX4_isSame_357 : decode cX4_isSame 357 = .ok (.invokestatic 40, 3) := by decide +kernel
theorem dX4_isSame_360 : decode cX4_isSame 360 = .ok (.iconst 1, 1) := by decide +kernel
theorem dX4_isSame_361 : decode cX4_isSame 361 = .ok (.isub, 1) := by decide +kernel
theorem dX4_isSame_362 : decode cX4_isSame 362 = .ok (.if_icmp .ne 21, 3) := by decide +kernel
theorem dX4_isSame_365 : decode cX4_isSame 365 = .ok (.aload_n 1, 1) := by decide +kernel
theorem dX4_isSame_366 : decode cX4_isSame 366 = .ok (.iload_n 2, 1) := by decide +kernel
theorem dX4_isSame_367 : decode cX4_isSame 367 = .ok (.aload 7, 2) := by decide +kernel
theorem dX4_isSame_369 : decode cX4_isSame 369 = .ok (.getfield 24, 3) := by decide +kernel
theorem dX4_isSame_372 : decode cX4_isSame 372 = .ok (.invokevirtual 132, 3) := by decide +kernel
theorem dX4_isSame_375 : decode cX4_isSame 375 = .ok (.aload 7, 2) := by decide +kernel
theorem dX4_isSame_377 : decode cX4_isSame 377 = .ok (.getfield 30, 3) := by decide +kernel
theorem dX4_isSame_380 : decode cX4_isSame 380 = .ok (.if_icmp .eq 5, 3) := by decide +kernel
theorem dX4_isSame_383 : decode cX4_isSame 383 = .ok (.iconst 0, 1) := by decide +kernel
theorem dX4_isSame_384 : decode cX4_isSame 384 = .ok (.ireturn, 1) := by decide +kernel
theorem dX4_isSame_385 : decode cX4_isSame 385 = .ok (.iinc 6 1, 3) := by decide +kernel
theorem dX4_isSame_388 : decode cX4_isSame 388 = .ok (.goto (-202), 3) := by decide +kernel
theorem dX4_isSame_391 : decode cX4_isSame 391 = .ok (.iinc 2 1, 3) := by decide +kernel
theorem dX4_isSame_394 : decode cX4_isSame 394 = .ok (.goto (-392), 3) := by decide +kernel
theorem dX4_isSame_397 : decode cX4_isSame 397 = .ok (.aload_n 1, 1) := by decide +kernel
theorem dX4_isSame_398 : decode cX4_isSame 398 = .ok (.invokevirtual 134, 3) := by decide +kernel
theorem dX4_isSame_401 : decode cX4_isSame 401 = .ok (.aload_n 0, 1) := by decide +kernel
theorem dX4_isSame_402 : decode cX4_isSame 402 = .ok (.invokevirtual 138, 3) := by decide +kernel
theorem dX4_isSame_405 : decode cX4_isSame 405 = .ok (.if_icmp .ne 18, 3) := by decide +kernel
theorem dX4_isSame_408 : decode cX4_isSame 408 = .ok (.aload_n 1, 1) := by decide +kernel
theorem dX4_isSame_409 : decode cX4_isSame 409 = .ok (.invokevirtual 141, 3) := by decide +kernel
theorem dX4_isSame_412 : decode cX4_isSame 412 = .ok (.aload_n 0, 1) := by decide +kernel
theorem dX4_isSame_413 : decode cX4_isSame 413 = .ok (.getfield 20, 3) := by decide +kernel
theorem dX4_isSame_416 : decode cX4_isSame 416 = .ok (.if_icmp .ne 7, 3) := by decide +kernel
theorem dX4_isSame_419 : decode cX4_isSame 419 = .ok (.iconst 1, 1) := by decide +kernel
theorem dX4_isSame_420 : decode cX4_isSame 420 = .ok (.goto 4, 3) := by decide +kernel
theorem dX4_isSame_423 : decode cX4_isSame 423 = .ok (.iconst 0, 1) := by decide +kernel
theorem dX4_isSame_424 : decode cX4_isSame 424 = .ok (.ireturn, 1) := by decide +kernel
