theorem dX3_init_0 : decode cX3_init 0 = .ok (.aload_n 0, 1) := by decide +kernel
theorem dX3_init_1 : decode cX3_init 1 = .ok (.invokespecial 3, 3) := by decide +kernel
theorem dX3_init_4 : decode cX3_init 4 = .ok (.aload_n 0, 1) := by decide +kernel
theorem dX3_init_5 : decode cX3_init 5 = .ok (.sipush 206, 3) := by decide +kernel
theorem dX3_init_8 : decode cX3_init 8 = .ok (.newarray .int, 2) := by decide +kernel
theorem dX3_init_10 : decode cX3_init 10 = .ok (.putfield 9, 3) := by decide +kernel
theorem dX3_init_13 : decode cX3_init 13 = .ok (.aload_n 0, 1) := by decide +kernel
theorem dX3_init_14 : decode cX3_init 14 = .ok (.sipush 206, 3) := by decide +kernel
theorem dX3_init_17 : decode cX3_init 17 = .ok (.newarray .int, 2) := by decide +kernel
theorem dX3_init_19 : decode cX3_init 19 = .ok (.putfield 13, 3) := by decide +kernel
theorem dX3_init_22 : decode cX3_init 22 = .ok (.iconst 0, 1) := by decide +kernel
theorem dX3_init_23 : decode cX3_init 23 = .ok (.istore_n 1, 1) := by decide +kernel
theorem dX3_init_24 : decode cX3_init 24 = .ok (.iload_n 1, 1) := by decide +kernel
theorem dX3_init_25 : decode cX3_init 25 = .ok (.sipush 206, 3) := by decide +kernel
theorem dX3_init_28 : decode cX3_init 28 = .ok (.if_icmp .ge 16, 3) := by decide +kernel
theorem dX3_init_31 : decode cX3_init 31 = .ok (.aload_n 0, 1) := by decide +kernel
theorem dX3_init_32 : decode cX3_init 32 = .ok (.getfield 9, 3) := by decide +kernel
theorem dX3_init_35 : decode cX3_init 35 = .ok (.iload_n 1, 1) := by decide +kernel
theorem dX3_init_36 : decode cX3_init 36 = .ok (.iconst (-1), 1) := by decide +kernel
theorem dX3_init_37 : decode cX3_init 37 = .ok (.iastore, 1) := by decide +kernel
theorem dX3_init_38 : decode cX3_init 38 = .ok (.iinc 1 1, 3) := by decide +kernel
theorem dX3_init_41 : decode cX3_init 41 = .ok (.goto (-17), 3) := by decide +kernel
theorem dX3_init_44 : decode cX3_init 44 = .ok (.return_, 1) := by decide +kernel
theorem dX3_thrown_0 : decode cX3_thrown 0 = .ok (.aload_n 0, 1) := by decide +kernel
theorem dX3_thrown_1 : decode cX3_thrown 1 = .ok (.getfield 16, 3) := by decide +kernel
theorem dX3_thrown_4 : decode cX3_thrown 4 = .ok (.ireturn, 1) := by decide +kernel
theorem dX3_no_0 : decode cX3_no 0 = .ok (.aload_n 0, 1) := by decide +kernel
theorem dX3_no_1 : decode cX3_no 1 = .ok (.iload_n 1, 1) := by decide +kernel
theorem dX3_no_2 : decode cX3_no 2 = .ok (.putfield 16, 3) := by decide +kernel
theorem dX3_no_5 : decode cX3_no 5 = .ok (.iconst 0, 1) := by decide +kernel
theorem dX3_no_6 : decode cX3_no 6 = .ok (.ireturn, 1) := by decide +kernel
theorem dX3_isNot_0 : decode cX3_isNot 0 = .ok (.aload_n 0, 1) := by decide +kernel
theorem dX3_isNot_1 : decode cX3_isNot 1 = .ok (.iload_n 1, 1) := by decide +kernel
theorem dX3_isNot_2 : decode cX3_isNot 2 = .ok (.putfield 16, 3) := by decide +kernel
theorem dX3_isNot_5 : decode cX3_isNot 5 = .ok (.iconst 0, 1) := by decide +kernel
theorem dX3_isNot_6 : decode cX3_isNot 6 = .ok (.ireturn, 1) := by decide +kernel
theorem dX3_ok_0 : decode cX3_ok 0 = .ok (.aload_n 0, 1) := by decide +kernel
theorem dX3_ok_1 : decode cX3_ok 1 = .ok (.iconst 0, 1) := by decide +kernel
theorem dX3_ok_2 : decode cX3_ok 2 = .ok (.putfield 16, 3) := by decide +kernel
theorem dX3_ok_5 : decode cX3_ok 5 = .ok (.iload_n 1, 1) := by decide +kernel
theorem dX3_ok_6 : decode cX3_ok 6 = .ok (.ireturn, 1) := by decide +kernel
theorem dX3_isRow_0 : decode cX3_isRow 0 = .ok (.iload_n 0, 1) := by decide +kernel
theorem dX3_isRow_1 : decode cX3_isRow 1 = .ok (.ifCond .lt 13, 3) := by decide +kernel
theorem dX3_isRow_4 : decode cX3_isRow 4 = .ok (.iload_n 0, 1) := by decide +kernel
theorem dX3_isRow_5 : decode cX3_isRow 5 = .ok (.bipush 6, 2) := by decide +kernel
theorem dX3_isRow_7 : decode cX3_isRow 7 = .ok (.if_icmp .ge 7, 3) := by decide +kernel
theorem dX3_isRow_10 : decode cX3_isRow 10 = .ok (.iconst 1, 1) := by decide +kernel
theorem dX3_isRow_11 : decode cX3_isRow 11 = .ok (.goto 4, 3) := by decide +kernel
theorem dX3_isRow_14 : decode cX3_isRow 14 = .ok (.iconst 0, 1) := by decide +kernel
theorem dX3_isRow_15 : decode cX3_isRow 15 = .ok (.ireturn, 1) := by decide +kernel
theorem dX3_isSize_0 : decode cX3_isSize 0 = .ok (.iload_n 0, 1) := by decide +kernel
theorem dX3_isSize_1 : decode cX3_isSize 1 = .ok (.ifCond .lt 14, 3) := by decide +kernel
theorem dX3_isSize_4 : decode cX3_isSize 4 = .ok (.iload_n 0, 1) := by decide +kernel
theorem dX3_isSize_5 : decode cX3_isSize 5 = .ok (.sipush 999, 3) := by decide +kernel
theorem dX3_isSize_8 : decode cX3_isSize 8 = .ok (.if_icmp .gt 7, 3) := by decide +kernel
theorem dX3_isSize_11 : decode cX3_isSize 11 = .ok (.iconst 1, 1) := by decide +kernel
theorem dX3_isSize_12 : decode cX3_isSize 12 = .ok (.goto 4, 3) := by decide +kernel
theorem dX3_isSize_15 : decode cX3_isSize 15 = .ok (.iconst 0, 1) := by decide +kernel
theorem dX3_isSize_16 : decode cX3_isSize 16 = .ok (.ireturn, 1) := by decide +kernel
theorem dX3_keep_0 : decode cX3_keep 0 = .ok (.aload_n 0, 1) := by decide +kernel
theorem dX3_keep_1 : decode cX3_keep 1 = .ok (.getfield 9, 3) := by decide +kernel
theorem dX3_keep_4 : decode cX3_keep 4 = .ok (.iconst 0, 1) := by decide +kernel
theorem dX3_keep_5 : decode cX3_keep 5 = .ok (.aload_n 0, 1) := by decide +kernel
theorem dX3_keep_6 : decode cX3_keep 6 = .ok (.getfield 13, 3) := by decide +kernel
theorem dX3_keep_9 : decode cX3_keep 9 = .ok (.iconst 0, 1) := by decide +kernel
theorem dX3_keep_10 : decode cX3_keep 10 = .ok (.sipush 206, 3) := by decide +kernel
theorem dX3_keep_13 : decode cX3_keep 13 = .ok (.invokestatic 20, 3) := by decide +kernel
theorem dX3_keep_16 : decode cX3_keep 16 = .ok (.aload_n 0, 1) := by decide +kernel
theorem dX3_keep_17 : decode cX3_keep 17 = .ok (.aload_n 0, 1) := by decide +kernel
theorem dX3_keep_18 : decode cX3_keep 18 = .ok (.getfield 26, 3) := by decide +kernel
theorem dX3_keep_21 : decode cX3_keep 21 = .ok (.putfield 29, 3) := by decide +kernel
theorem dX3_keep_24 : decode cX3_keep 24 = .ok (.return_, 1) := by decide +kernel
theorem dX3_bringBack_0 : decode cX3_bringBack 0 = .ok (.aload_n 0, 1) := by decide +kernel
theorem dX3_bringBack_1 : decode cX3_bringBack 1 = .ok (.getfield 13, 3) := by decide +kernel
theorem dX3_bringBack_4 : decode cX3_bringBack 4 = .ok (.iconst 0, 1) := by decide +kernel
theorem dX3_bringBack_5 : decode cX3_bringBack 5 = .ok (.aload_n 0, 1) := by decide +kernel
theorem dX3_bringBack_6 : decode cX3_bringBack 6 = .ok (.getfield 9, 3) := by decide +kernel
theorem dX3_bringBack_9 : decode cX3_bringBack 9 = .ok (.iconst 0, 1) := by decide +kernel
theorem dX3_bringBack_10 : decode cX3_bringBack 10 = .ok (.sipush 206, 3) := by decide +kernel
theorem dX3_bringBack_13 : decode cX3_bringBack 13 = .ok (.invokestatic 20, 3) := by decide +kernel
theorem dX3_bringBack_16 : decode cX3_bringBack 16 = .ok (.aload_n 0, 1) := by decide +kernel
theorem dX3_bringBack_17 : decode cX3_bringBack 17 = .ok (.aload_n 0, 1) := by decide +kernel
theorem dX3_bringBack_18 : decode cX3_bringBack 18 = .ok (.getfield 29, 3) := by decide +kernel
theorem dX3_bringBack_21 : decode cX3_bringBack 21 = .ok (.putfield 26, 3) := by decide +kernel
theorem dX3_bringBack_24 : decode cX3_bringBack 24 = .ok (.return_, 1) := by decide +kernel
theorem dX3_find_0 : decode cX3_find 0 = .ok (.aload_n 0, 1) := by decide +kernel
theorem dX3_find_1 : decode cX3_find 1 = .ok (.getfield 9, 3) := by decide +kernel
theorem dX3_find_4 : decode cX3_find 4 = .ok (.sipush 200, 3) := by decide +kernel
theorem dX3_find_7 : decode cX3_find 7 = .ok (.iload_n 1, 1) := by decide +kernel
theorem dX3_find_8 : decode cX3_find 8 = .ok (.iadd, 1) := by decide +kernel
theorem dX3_find_9 : decode cX3_find 9 = .ok (.iaload, 1) := by decide +kernel
theorem dX3_find_10 : decode cX3_find 10 = .ok (.istore_n 3, 1) := by decide +kernel
theorem dX3_find_11 : decode cX3_find 11 = .ok (.iload_n 3, 1) := by decide +kernel
theorem dX3_find_12 : decode cX3_find 12 = .ok (.iconst (-1), 1) := by decide +kernel
theorem dX3_find_13 : decode cX3_find 13 = .ok (.if_icmp .eq 45, 3) := by decide +kernel
theorem dX3_find_16 : decode cX3_find 16 = .ok (.aload_n 0, 1) := by decide +kernel
theorem dX3_find_17 : decode cX3_find 17 = .ok (.getfield 9, 3) := by decide +kernel
theorem dX3_find_20 : decode cX3_find 20 = .ok (.iconst 0, 1) := by decide +kernel
theorem dX3_find_21 : decode cX3_find 21 = .ok (.iload_n 3, 1) := by decide +kernel
theorem dX3_find_22 : decode cX3_find 22 = .ok (.iadd, 1) := by decide +kernel
theorem dX3_find_23 : decode cX3_find 23 = .ok (.iaload, 1) := by decide +kernel
theorem dX3_find_24 : decode cX3_find 24 = .ok (.iload_n 2, 1) := by decide +kernel
theorem dX3_find_25 : decode cX3_find 25 = .ok (.if_icmp .eq 33, 3) := by decide +kernel
theorem dX3_find_28 : decode cX3_find 28 = .ok (.aload_n 0, 1) := by decide +kernel
theorem dX3_find_29 : decode cX3_find 29 = .ok (.getfield 9, 3) := by decide +kernel
theorem dX3_find_32 : decode cX3_find 32 = .ok (.iload_n 2, 1) := by decide +kernel
theorem dX3_find_33 : decode cX3_find 33 = .ok (.aload_n 0, 1) := by decide +kernel
theorem dX3_find_34 : decode cX3_find 34 = .ok (.getfield 9, 3) := by decide +kernel
theorem dX3_find_37 : decode cX3_find 37 = .ok (.iconst 0, 1) := by decide +kernel
theorem dX3_find_38 : decode cX3_find 38 = .ok (.iload_n 3, 1) := by decide +kernel
theorem dX3_find_39 : decode cX3_find 39 = .ok (.iadd, 1) := by decide +kernel
theorem dX3_find_40 : decode cX3_find 40 = .ok (.iaload, 1) := by decide +kernel
theorem dX3_find_41 : decode cX3_find 41 = .ok (.if_icmp .ge 8, 3) := by decide +kernel
theorem dX3_find_44 : decode cX3_find 44 = .ok (.bipush 40, 2) := by decide +kernel
theorem dX3_find_46 : decode cX3_find 46 = .ok (.goto 5, 3) := by decide +kernel
theorem dX3_find_49 : decode cX3_find 49 = .ok (.bipush 80, 2) := by decide +kernel
theorem dX3_find_51 : decode cX3_find 51 = .ok (.iload_n 3, 1) := by decide +kernel
theorem dX3_find_52 : decode cX3_find 52 = .ok (.iadd, 1) := by decide +kernel
theorem dX3_find_53 : decode cX3_find 53 = .ok (.iaload, 1) := by decide +kernel
theorem dX3_find_54 : decode cX3_find 54 = .ok (.istore_n 3, 1) := by decide +kernel
theorem dX3_find_55 : decode cX3_find 55 = .ok (.goto (-44), 3) := by decide +kernel
theorem dX3_find_58 : decode cX3_find 58 = .ok (.iload_n 3, 1) := by decide +kernel
theorem dX3_find_59 : decode cX3_find 59 = .ok (.ireturn, 1) := by decide +kernel
theorem dX3_deep_0 : decode cX3_deep 0 = .ok (.iconst 0, 1) := by decide +kernel
theorem dX3_deep_1 : decode cX3_deep 1 = .ok (.istore_n 2, 1) := by decide +kernel
theorem dX3_deep_2 : decode cX3_deep 2 = .ok (.aload_n 0, 1) := by decide +kernel
theorem dX3_deep_3 : decode cX3_deep 3 = .ok (.getfield 9, 3) := by decide +kernel
theorem dX3_deep_6 : decode cX3_deep 6 = .ok (.bipush 120, 2) := by decide +kernel
theorem dX3_deep_8 : decode cX3_deep 8 = .ok (.iload_n 1, 1) := by decide +kernel
theorem dX3_deep_9 : decode cX3_deep 9 = .ok (.iadd, 1) := by decide +kernel
theorem dX3_deep_10 : decode cX3_deep 10 = .ok (.iaload, 1) := by decide +kernel
theorem dX3_deep_11 : decode cX3_deep 11 = .ok (.istore_n 3, 1) := by decide +kernel
theorem dX3_deep_12 : decode cX3_deep 12 = .ok (.iload_n 3, 1) := by decide +kernel
theorem dX3_deep_13 : decode cX3_deep 13 = .ok (.iconst (-1), 1) := by decide +kernel
theorem dX3_deep_14 : decode cX3_deep 14 = .ok (.if_icmp .eq 19, 3) := by decide +kernel
theorem dX3_deep_17 : decode cX3_deep 17 = .ok (.iinc 2 1, 3) := by decide +kernel
theorem dX3_deep_20 : decode cX3_deep 20 = .ok (.aload_n 0, 1) := by decide +kernel
theorem dX3_deep_21 : decode cX3_deep 21 = .ok (.getfield 9, 3) := by decide +kernel
theorem dX3_deep_24 : decode cX3_deep 24 = .ok (.bipush 120, 2) := by decide +kernel
theorem dX3_deep_26 : decode cX3_deep 26 = .ok (.iload_n 3, 1) := by decide +kernel
theorem dX3_deep_27 : decode cX3_deep 27 = .ok (.iadd, 1) := by decide +kernel
theorem dX3_deep_28 : decode cX3_deep 28 = .ok (.iaload, 1) := by decide +kernel
theorem dX3_deep_29 : decode cX3_deep 29 = .ok (.istore_n 3, 1) := by decide +kernel
theorem dX3_deep_30 : decode cX3_deep 30 = .ok (.goto (-18), 3) := by decide +kernel
theorem dX3_deep_33 : decode cX3_deep 33 = .ok (.iload_n 2, 1) := by decide +kernel
theorem dX3_deep_34 : decode cX3_deep 34 = .ok (.ireturn, 1) := by decide +kernel
theorem dX3_free_0 : decode cX3_free 0 = .ok (.iconst 0, 1) := by decide +kernel
theorem dX3_free_1 : decode cX3_free 1 = .ok (.istore_n 1, 1) := by decide +kernel
theorem dX3_free_2 : decode cX3_free 2 = .ok (.aload_n 0, 1) := by decide +kernel
theorem dX3_free_3 : decode cX3_free 3 = .ok (.getfield 9, 3) := by decide +kernel
theorem dX3_free_6 : decode cX3_free 6 = .ok (.iconst 0, 1) := by decide +kernel
theorem dX3_free_7 : decode cX3_free 7 = .ok (.iload_n 1, 1) := by decide +kernel
theorem dX3_free_8 : decode cX3_free 8 = .ok (.iadd, 1) := by decide +kernel
theorem dX3_free_9 : decode cX3_free 9 = .ok (.iaload, 1) := by decide +kernel
theorem dX3_free_10 : decode cX3_free 10 = .ok (.iconst (-1), 1) := by decide +kernel
theorem dX3_free_11 : decode cX3_free 11 = .ok (.if_icmp .eq 9, 3) := by decide +kernel
theorem dX3_free_14 : decode cX3_free 14 = .ok (.iinc 1 1, 3) := by decide +kernel
theorem dX3_free_17 : decode cX3_free 17 = .ok (.goto (-15), 3) := by decide +kernel
theorem dX3_free_20 : decode cX3_free 20 = .ok (.iload_n 1, 1) := by decide +kernel
theorem dX3_free_21 : decode cX3_free 21 = .ok (.ireturn, 1) := by decide +kernel
theorem dX3_end_0 : decode cX3_end 0 = .ok (.iload_n 1, 1) := by decide +kernel
theorem dX3_end_1 : decode cX3_end 1 = .ok (.istore_n 3, 1) := by decide +kernel
theorem dX3_end_2 : decode cX3_end 2 = .ok (.iload_n 3, 1) := by decide +kernel
theorem dX3_end_3 : decode cX3_end 3 = .ok (.iconst (-1), 1) := by decide +kernel
theorem dX3_end_4 : decode cX3_end 4 = .ok (.if_icmp .eq 27, 3) := by decide +kernel
theorem dX3_end_7 : decode cX3_end 7 = .ok (.aload_n 0, 1) := by decide +kernel
theorem dX3_end_8 : decode cX3_end 8 = .ok (.getfield 9, 3) := by decide +kernel
theorem dX3_end_11 : decode cX3_end 11 = .ok (.iload_n 2, 1) := by decide +kernel
theorem dX3_end_12 : decode cX3_end 12 = .ok (.iload_n 3, 1) := by decide +kernel
theorem dX3_end_13 : decode cX3_end 13 = .ok (.iadd, 1) := by decide +kernel
theorem dX3_end_14 : decode cX3_end 14 = .ok (.iaload, 1) := by decide +kernel
theorem dX3_end_15 : decode cX3_end 15 = .ok (.iconst (-1), 1) := by decide +kernel
theorem dX3_end_16 : decode cX3_end 16 = .ok (.if_icmp .eq 15, 3) := by decide +kernel
theorem dX3_end_19 : decode cX3_end 19 = .ok (.aload_n 0, 1) := by decide +kernel
theorem dX3_end_20 : decode cX3_end 20 = .ok (.getfield 9, 3) := by decide +kernel
theorem dX3_end_23 : decode cX3_end 23 = .ok (.iload_n 2, 1) := by decide +kernel
theorem dX3_end_24 : decode cX3_end 24 = .ok (.iload_n 3, 1) := by decide +kernel
theorem dX3_end_25 : decode cX3_end 25 = .ok (.iadd, 1) := by decide +kernel
theorem dX3_end_26 : decode cX3_end 26 = .ok (.iaload, 1) := by decide +kernel
theorem dX3_end_27 : decode cX3_end 27 = .ok (.istore_n 3, 1) := by decide +kernel
theorem dX3_end_28 : decode cX3_end 28 = .ok (.goto (-26), 3) := by decide +kernel
theorem dX3_end_31 : decode cX3_end 31 = .ok (.iload_n 3, 1) := by decide +kernel
theorem dX3_end_32 : decode cX3_end 32 = .ok (.ireturn, 1) := by decide +kernel
theorem dX3_hang_0 : decode cX3_hang 0 = .ok (.iload_n 2, 1) := by decide +kernel
theorem dX3_hang_1 : decode cX3_hang 1 = .ok (.iconst (-1), 1) := by decide +kernel
theorem dX3_hang_2 : decode cX3_hang 2 = .ok (.if_icmp .eq 12, 3) := by decide +kernel
theorem dX3_hang_5 : decode cX3_hang 5 = .ok (.aload_n 0, 1) := by decide +kernel
theorem dX3_hang_6 : decode cX3_hang 6 = .ok (.getfield 9, 3) := by decide +kernel
theorem dX3_hang_9 : decode cX3_hang 9 = .ok (.iload_n 3, 1) := by decide +kernel
theorem dX3_hang_10 : decode cX3_hang 10 = .ok (.iload_n 2, 1) := by decide +kernel
theorem dX3_hang_11 : decode cX3_hang 11 = .ok (.iadd, 1) := by decide +kernel
theorem dX3_hang_12 : decode cX3_hang 12 = .ok (.iload_n 1, 1) := by decide +kernel
theorem dX3_hang_13 : decode cX3_hang 13 = .ok (.iastore, 1) := by decide +kernel
theorem dX3_hang_14 : decode cX3_hang 14 = .ok (.iload_n 1, 1) := by decide +kernel
theorem dX3_hang_15 : decode cX3_hang 15 = .ok (.iconst (-1), 1) := by decide +kernel
theorem dX3_hang_16 : decode cX3_hang 16 = .ok (.if_icmp .eq 13, 3) := by decide +kernel
theorem dX3_hang_19 : decode cX3_hang 19 = .ok (.aload_n 0, 1) := by decide +kernel
theorem dX3_hang_20 : decode cX3_hang 20 = .ok (.getfield 9, 3) := by decide +kernel
theorem dX3_hang_23 : decode cX3_hang 23 = .ok (.bipush 120, 2) := by decide +kernel
theorem dX3_hang_25 : decode cX3_hang 25 = .ok (.iload_n 1, 1) := by decide +kernel
theorem dX3_hang_26 : decode cX3_hang 26 = .ok (.iadd, 1) := by decide +kernel
theorem dX3_hang_27 : decode cX3_hang 27 = .ok (.iload_n 2, 1) := by decide +kernel
theorem dX3_hang_28 : decode cX3_hang 28 = .ok (.iastore, 1) := by decide +kernel
theorem dX3_hang_29 : decode cX3_hang 29 = .ok (.return_, 1) := by decide +kernel
theorem dX3_sideOf_0 : decode cX3_sideOf 0 = .ok (.aload_n 0, 1) := by decide +kernel
theorem dX3_sideOf_1 : decode cX3_sideOf 1 = .ok (.getfield 9, 3) := by decide +kernel
theorem dX3_sideOf_4 : decode cX3_sideOf 4 = .ok (.bipush 40, 2) := by decide +kernel
theorem dX3_sideOf_6 : decode cX3_sideOf 6 = .ok (.aload_n 0, 1) := by decide +kernel
theorem dX3_sideOf_7 : decode cX3_sideOf 7 = .ok (.getfield 9, 3) := by decide +kernel
theorem dX3_sideOf_10 : decode cX3_sideOf 10 = .ok (.bipush 120, 2) := by decide +kernel
theorem dX3_sideOf_12 : decode cX3_sideOf 12 = .ok (.iload_n 1, 1) := by decide +kernel
theorem dX3_sideOf_13 : decode cX3_sideOf 13 = .ok (.iadd, 1) := by decide +kernel
theorem dX3_sideOf_14 : decode cX3_sideOf 14 = .ok (.iaload, 1) := by decide +kernel
theorem dX3_sideOf_15 : decode cX3_sideOf 15 = .ok (.iadd, 1) := by decide +kernel
theorem dX3_sideOf_16 : decode cX3_sideOf 16 = .ok (.iaload, 1) := by decide +kernel
theorem dX3_sideOf_17 : decode cX3_sideOf 17 = .ok (.iload_n 1, 1) := by decide +kernel
theorem dX3_sideOf_18 : decode cX3_sideOf 18 = .ok (.if_icmp .ne 8, 3) := by decide +kernel
theorem dX3_sideOf_21 : decode cX3_sideOf 21 = .ok (.bipush 40, 2) := by decide +kernel
theorem dX3_sideOf_23 : decode cX3_sideOf 23 = .ok (.goto 5, 3) := by decide +kernel
theorem dX3_sideOf_26 : decode cX3_sideOf 26 = .ok (.bipush 80, 2) := by decide +kernel
theorem dX3_sideOf_28 : decode cX3_sideOf 28 = .ok (.ireturn, 1) := by decide +kernel
theorem dX3_across_0 : decode cX3_across 0 = .ok (.iload_n 0, 1) := by decide +kernel
theorem dX3_across_1 : decode cX3_across 1 = .ok (.bipush 40, 2) := by decide +kernel
theorem dX3_across_3 : decode cX3_across 3 = .ok (.if_icmp .ne 8, 3) := by decide +kernel
theorem dX3_across_6 : decode cX3_across 6 = .ok (.bipush 80, 2) := by decide +kernel
theorem dX3_across_8 : decode cX3_across 8 = .ok (.goto 5, 3) := by decide +kernel
theorem dX3_across_11 : decode cX3_across 11 = .ok (.bipush 40, 2) := by decide +kernel
theorem dX3_across_13 : decode cX3_across 13 = .ok (.ireturn, 1) := by decide +kernel
set_option maxRecDepth 20000 in
theorem ggX3_turn_X3_sideOf : GoodIn wsX3_turn wsX3_sideOf := goodIn_r _ [7, 1, 15, 16, 17, 18, 19, 20] (by decide +kernel) (by decide +kernel)
set_option maxRecDepth 20000 in
theorem gX3_turn_X3_sideOf : GoodIn wsX3_turn (wsV RX3 32 RX3 yX3_sideOf wsX3_sideOf) := goodIn_app (goodIn_of _ (by decide +kernel)) ggX3_turn_X3_sideOf
set_option maxRecDepth 20000 in
theorem ggX3_turn_X3_across : GoodIn wsX3_turn wsX3_across := goodIn_r _ [10] (by decide +kernel) (by decide +kernel)
set_option maxRecDepth 20000 in
theorem gX3_turn_X3_across : GoodIn wsX3_turn (va_wsS RX3 36 yX3_across wsX3_across) := goodIn_app (goodIn_of _ (by decide +kernel)) ggX3_turn_X3_across
set_option maxRecDepth 20000 in
theorem ggX3_turn_X3_hang : GoodIn wsX3_turn wsX3_hang := goodIn_r _ [14, 1, 15, 16, 17, 18, 19, 20] (by decide +kernel) (by decide +kernel)
set_option maxRecDepth 20000 in
theorem gX3_turn_X3_hang : GoodIn wsX3_turn (wsV RX3 39 RX3 yX3_hang wsX3_hang) := goodIn_app (goodIn_of _ (by decide +kernel)) ggX3_turn_X3_hang
theorem dX3_turn_0 : decode cX3_turn 0 = .ok (.aload_n 0, 1) := by decide +kernel
theorem dX3_turn_1 : decode cX3_turn 1 = .ok (.getfield 9, 3) := by decide +kernel
theorem dX3_turn_4 : decode cX3_turn 4 = .ok (.bipush 120, 2) := by decide +kernel
theorem dX3_turn_6 : decode cX3_turn 6 = .ok (.iload_n 1, 1) := by decide +kernel
theorem dX3_turn_7 : decode cX3_turn 7 = .ok (.iadd, 1) := by decide +kernel
theorem dX3_turn_8 : decode cX3_turn 8 = .ok (.iaload, 1) := by decide +kernel
theorem dX3_turn_9 : decode cX3_turn 9 = .ok (.istore_n 2, 1) := by decide +kernel
theorem dX3_turn_10 : decode cX3_turn 10 = .ok (.aload_n 0, 1) := by decide +kernel
theorem dX3_turn_11 : decode cX3_turn 11 = .ok (.getfield 9, 3) := by decide +kernel
theorem dX3_turn_14 : decode cX3_turn 14 = .ok (.bipush 120, 2) := by decide +kernel
theorem dX3_turn_16 : decode cX3_turn 16 = .ok (.iload_n 2, 1) := by decide +kernel
theorem dX3_turn_17 : decode cX3_turn 17 = .ok (.iadd, 1) := by decide +kernel
theorem dX3_turn_18 : decode cX3_turn 18 = .ok (.iaload, 1) := by decide +kernel
theorem dX3_turn_19 : decode cX3_turn 19 = .ok (.istore_n 3, 1) := by decide +kernel
theorem dX3_turn_20 : decode cX3_turn 20 = .ok (.aload_n 0, 1) := by decide +kernel
theorem dX3_turn_21 : decode cX3_turn 21 = .ok (.iload_n 1, 1) := by decide +kernel
theorem dX3_turn_22 : decode cX3_turn 22 = .ok (.invokevirtual 32, 3) := by decide +kernel
theorem dX3_turn_25 : decode cX3_turn 25 = .ok (.istore 4, 2) := by decide +kernel
theorem dX3_turn_27 : decode cX3_turn 27 = .ok (.iload_n 3, 1) := by decide +kernel
theorem dX3_turn_28 : decode cX3_turn 28 = .ok (.iconst (-1), 1) := by decide +kernel
theorem dX3_turn_29 : decode cX3_turn 29 = .ok (.if_icmp .ne 7, 3) := by decide +kernel
theorem dX3_turn_32 : decode cX3_turn 32 = .ok (.iconst (-1), 1) := by decide +kernel
theorem dX3_turn_33 : decode cX3_turn 33 = .ok (.goto 8, 3) := by decide +kernel
theorem dX3_turn_36 : decode cX3_turn 36 = .ok (.aload_n 0, 1) := by decide +kernel
theorem dX3_turn_37 : decode cX3_turn 37 = .ok (.iload_n 2, 1) := by decide +kernel
theorem dX3_turn_38 : decode cX3_turn 38 = .ok (.invokevirtual 32, 3) := by decide +kernel
theorem dX3_turn_41 : decode cX3_turn 41 = .ok (.istore 5, 2) := by decide +kernel
theorem dX3_turn_43 : decode cX3_turn 43 = .ok (.aload_n 0, 1) := by decide +kernel
theorem dX3_turn_44 : decode cX3_turn 44 = .ok (.aload_n 0, 1) := by decide +kernel
theorem dX3_turn_45 : decode cX3_turn 45 = .ok (.getfield 9, 3) := by decide +kernel
theorem dX3_turn_48 : decode cX3_turn 48 = .ok (.iload 4, 2) := by decide +kernel
theorem dX3_turn_50 : decode cX3_turn 50 = .ok (.invokestatic 36, 3) := by decide +kernel
theorem dX3_turn_53 : decode cX3_turn 53 = .ok (.iload_n 1, 1) := by decide +kernel
theorem dX3_turn_54 : decode cX3_turn 54 = .ok (.iadd, 1) := by decide +kernel
theorem dX3_turn_55 : decode cX3_turn 55 = .ok (.iaload, 1) := by decide +kernel
theorem dX3_turn_56 : decode cX3_turn 56 = .ok (.iload_n 2, 1) := by decide +kernel
theorem dX3_turn_57 : decode cX3_turn 57 = .ok (.iload 4, 2) := by decide +kernel
theorem dX3_turn_59 : decode cX3_turn 59 = .ok (.invokevirtual 39, 3) := by decide +kernel
theorem dX3_turn_62 : decode cX3_turn 62 = .ok (.aload_n 0, 1) := by decide +kernel
theorem dX3_turn_63 : decode cX3_turn 63 = .ok (.iload_n 2, 1) := by decide +kernel
theorem dX3_turn_64 : decode cX3_turn 64 = .ok (.iload_n 1, 1) := by decide +kernel
theorem dX3_turn_65 : decode cX3_turn 65 = .ok (.iload 4, 2) := by decide +kernel
theorem dX3_turn_67 : decode cX3_turn 67 = .ok (.invokestatic 36, 3) := by decide +kernel
theorem dX3_turn_70 : decode cX3_turn 70 = .ok (.invokevirtual 39, 3) := by decide +kernel
theorem dX3_turn_73 : decode cX3_turn 73 = .ok (.aload_n 0, 1) := by decide +kernel
theorem dX3_turn_74 : decode cX3_turn 74 = .ok (.getfield 9, 3) := by decide +kernel
theorem dX3_turn_77 : decode cX3_turn 77 = .ok (.bipush 120, 2) := by decide +kernel
theorem dX3_turn_79 : decode cX3_turn 79 = .ok (.iload_n 1, 1) := by decide +kernel
theorem dX3_turn_80 : decode cX3_turn 80 = .ok (.iadd, 1) := by decide +kernel
theorem dX3_turn_81 : decode cX3_turn 81 = .ok (.iload_n 3, 1) := by decide +kernel
theorem dX3_turn_82 : decode cX3_turn 82 = .ok (.iastore, 1) := by decide +kernel
theorem dX3_turn_83 : decode cX3_turn 83 = .ok (.iload_n 3, 1) := by decide +kernel
theorem dX3_turn_84 : decode cX3_turn 84 = .ok (.iconst (-1), 1) := by decide +kernel
theorem dX3_turn_85 : decode cX3_turn 85 = .ok (.if_icmp .eq 13, 3) := by decide +kernel
theorem dX3_turn_88 : decode cX3_turn 88 = .ok (.aload_n 0, 1) := by decide +kernel
theorem dX3_turn_89 : decode cX3_turn 89 = .ok (.getfield 9, 3) := by decide +kernel
theorem dX3_turn_92 : decode cX3_turn 92 = .ok (.iload 5, 2) := by decide +kernel
theorem dX3_turn_94 : decode cX3_turn 94 = .ok (.iload_n 3, 1) := by decide +kernel
theorem dX3_turn_95 : decode cX3_turn 95 = .ok (.iadd, 1) := by decide +kernel
theorem dX3_turn_96 : decode cX3_turn 96 = .ok (.iload_n 1, 1) := by decide +kernel
theorem dX3_turn_97 : decode cX3_turn 97 = .ok (.iastore, 1) := by decide +kernel
theorem dX3_turn_98 : decode cX3_turn 98 = .ok (.aload_n 0, 1) := by decide +kernel
theorem dX3_turn_99 : decode cX3_turn 99 = .ok (.dup, 1) := by decide +kernel
theorem dX3_turn_100 : decode cX3_turn 100 = .ok (.getfield 26, 3) := by decide +kernel
theorem dX3_turn_103 : decode cX3_turn 103 = .ok (.iconst 1, 1) := by decide +kernel
theorem dX3_turn_104 : decode cX3_turn 104 = .ok (.iadd, 1) := by decide +kernel
theorem dX3_turn_105 : decode cX3_turn 105 = .ok (.putfield 26, 3) := by decide +kernel
theorem dX3_turn_108 : decode cX3_turn 108 = .ok (.return_, 1) := by decide +kernel
set_option maxRecDepth 20000 in
theorem ggX3_raise_X3_sideOf : GoodIn wsX3_raise wsX3_sideOf := goodIn_r _ [6, 1, 19, 20, 21, 22, 23, 24] (by decide +kernel) (by decide +kernel)
set_option maxRecDepth 20000 in
theorem gX3_raise_X3_sideOf : GoodIn wsX3_raise (wsV RX3 32 RX3 yX3_sideOf wsX3_sideOf) := goodIn_app (goodIn_of _ (by decide +kernel)) ggX3_raise_X3_sideOf
set_option maxRecDepth 20000 in
theorem ggX3_raise_X3_turn : GoodIn wsX3_raise wsX3_turn := goodIn_r _ [10, 1, 11, 2, 3, 4, 5, 6, 12, 13, 14, 15, 16, 17, 18, 19, 20, 21, 22, 23, 24] (by decide +kernel) (by decide +kernel)
set_option maxRecDepth 20000 in
theorem gX3_raise_X3_turn : GoodIn wsX3_raise (wsV RX3 43 RX3 yX3_turn wsX3_turn) := goodIn_app (goodIn_of _ (by decide +kernel)) ggX3_raise_X3_turn
theorem dX3_raise_0 : decode cX3_raise 0 = .ok (.aload_n 0, 1) := by decide +kernel
theorem dX3_raise_1 : decode cX3_raise 1 = .ok (.getfield 9, 3) := by decide +kernel
theorem dX3_raise_4 : decode cX3_raise 4 = .ok (.bipush 120, 2) := by decide +kernel
theorem dX3_raise_6 : decode cX3_raise 6 = .ok (.iload_n 1, 1) := by decide +kernel
theorem dX3_raise_7 : decode cX3_raise 7 = .ok (.iadd, 1) := by decide +kernel
theorem dX3_raise_8 : decode cX3_raise 8 = .ok (.iaload, 1) := by decide +kernel
theorem dX3_raise_9 : decode cX3_raise 9 = .ok (.iconst (-1), 1) := by decide +kernel
theorem dX3_raise_10 : decode cX3_raise 10 = .ok (.if_icmp .eq 56, 3) := by decide +kernel
theorem dX3_raise_13 : decode cX3_raise 13 = .ok (.aload_n 0, 1) := by decide +kernel
theorem dX3_raise_14 : decode cX3_raise 14 = .ok (.getfield 9, 3) := by decide +kernel
theorem dX3_raise_17 : decode cX3_raise 17 = .ok (.bipush 120, 2) := by decide +kernel
theorem dX3_raise_19 : decode cX3_raise 19 = .ok (.iload_n 1, 1) := by decide +kernel
theorem dX3_raise_20 : decode cX3_raise 20 = .ok (.iadd, 1) := by decide +kernel
theorem dX3_raise_21 : decode cX3_raise 21 = .ok (.iaload, 1) := by decide +kernel
theorem dX3_raise_22 : decode cX3_raise 22 = .ok (.istore_n 2, 1) := by decide +kernel
theorem dX3_raise_23 : decode cX3_raise 23 = .ok (.aload_n 0, 1) := by decide +kernel
theorem dX3_raise_24 : decode cX3_raise 24 = .ok (.getfield 9, 3) := by decide +kernel
theorem dX3_raise_27 : decode cX3_raise 27 = .ok (.bipush 120, 2) := by decide +kernel
theorem dX3_raise_29 : decode cX3_raise 29 = .ok (.iload_n 2, 1) := by decide +kernel
theorem dX3_raise_30 : decode cX3_raise 30 = .ok (.iadd, 1) := by decide +kernel
theorem dX3_raise_31 : decode cX3_raise 31 = .ok (.iaload, 1) := by decide +kernel
theorem dX3_raise_32 : decode cX3_raise 32 = .ok (.iconst (-1), 1) := by decide +kernel
theorem dX3_raise_33 : decode cX3_raise 33 = .ok (.if_icmp .eq 25, 3) := by decide +kernel
theorem dX3_raise_36 : decode cX3_raise 36 = .ok (.aload_n 0, 1) := by decide +kernel
theorem dX3_raise_37 : decode cX3_raise 37 = .ok (.aload_n 0, 1) := by decide +kernel
theorem dX3_raise_38 : decode cX3_raise 38 = .ok (.iload_n 1, 1) := by decide +kernel
theorem dX3_raise_39 : decode cX3_raise 39 = .ok (.invokevirtual 32, 3) := by decide +kernel
theorem dX3_raise_42 : decode cX3_raise 42 = .ok (.aload_n 0, 1) := by decide +kernel
theorem dX3_raise_43 : decode cX3_raise 43 = .ok (.iload_n 2, 1) := by decide +kernel
theorem dX3_raise_44 : decode cX3_raise 44 = .ok (.invokevirtual 32, 3) := by decide +kernel
theorem dX3_raise_47 : decode cX3_raise 47 = .ok (.if_icmp .ne 7, 3) := by decide +kernel
theorem dX3_raise_50 : decode cX3_raise 50 = .ok (.iload_n 2, 1) := by decide +kernel
theorem dX3_raise_51 : decode cX3_raise 51 = .ok (.goto 4, 3) := by decide +kernel
theorem dX3_raise_54 : decode cX3_raise 54 = .ok (.iload_n 1, 1) := by decide +kernel
theorem dX3_raise_55 : decode cX3_raise 55 = .ok (.invokevirtual 43, 3) := by decide +kernel
theorem dX3_raise_58 : decode cX3_raise 58 = .ok (.aload_n 0, 1) := by decide +kernel
theorem dX3_raise_59 : decode cX3_raise 59 = .ok (.iload_n 1, 1) := by decide +kernel
theorem dX3_raise_60 : decode cX3_raise 60 = .ok (.invokevirtual 43, 3) := by decide +kernel
theorem dX3_raise_63 : decode cX3_raise 63 = .ok (.goto (-63), 3) := by decide +kernel
theorem dX3_raise_66 : decode cX3_raise 66 = .ok (.return_, 1) := by decide +kernel
set_option maxRecDepth 20000 in
theorem ggX3_raiseIn_X3_raise : GoodIn wsX3_raiseIn wsX3_raise := goodIn_r _ [6, 1, 7, 8, 9, 5, 10, 11, 12, 13, 14, 15, 16, 17, 18, 19, 20, 21, 22, 23, 24, 25, 26, 27, 28] (by decide +kernel) (by decide +kernel)
set_option maxRecDepth 20000 in
theorem gX3_raiseIn_X3_raise : GoodIn wsX3_raiseIn (wsV RX3 47 RX3 yX3_raise wsX3_raise) := goodIn_app (goodIn_of _ (by decide +kernel)) ggX3_raiseIn_X3_raise
theorem dX3_raiseIn_0 : decode cX3_raiseIn 0 = .ok (.aload_n 0, 1) := by decide +kernel
theorem dX3_raiseIn_1 : decode cX3_raiseIn 1 = .ok (.iload_n 2, 1) := by decide +kernel
theorem dX3_raiseIn_2 : decode cX3_raiseIn 2 = .ok (.invokevirtual 47, 3) := by decide +kernel
theorem dX3_raiseIn_5 : decode cX3_raiseIn 5 = .ok (.aload_n 0, 1) := by decide +kernel
theorem dX3_raiseIn_6 : decode cX3_raiseIn 6 = .ok (.getfield 9, 3) := by decide +kernel
theorem dX3_raiseIn_9 : decode cX3_raiseIn 9 = .ok (.sipush 200, 3) := by decide +kernel
theorem dX3_raiseIn_12 : decode cX3_raiseIn 12 = .ok (.iload_n 1, 1) := by decide +kernel
theorem dX3_raiseIn_13 : decode cX3_raiseIn 13 = .ok (.iadd, 1) := by decide +kernel
theorem dX3_raiseIn_14 : decode cX3_raiseIn 14 = .ok (.iload_n 2, 1) := by decide +kernel
theorem dX3_raiseIn_15 : decode cX3_raiseIn 15 = .ok (.iastore, 1) := by decide +kernel
theorem dX3_raiseIn_16 : decode cX3_raiseIn 16 = .ok (.return_, 1) := by decide +kernel
set_option maxRecDepth 20000 in
theorem ggX3_count_X3_count : GoodIn wsX3_count wsX3_count := goodIn_r _ [0, 1, 2, 3, 4, 5, 6, 7, 8, 9, 10, 11] (by decide +kernel) (by decide +kernel)
set_option maxRecDepth 20000 in
theorem gX3_count_X3_count : GoodIn wsX3_count (wsV RX3 50 RX3 yX3_count wsX3_count) := goodIn_app (goodIn_of _ (by decide +kernel)) ggX3_count_X3_count
theorem dX3_count_0 : decode cX3_count 0 = .ok (.iload_n 1, 1) := by decide +kernel
theorem dX3_count_1 : decode cX3_count 1 = .ok (.iconst (-1), 1) := by decide +kernel
theorem dX3_count_2 : decode cX3_count 2 = .ok (.if_icmp .ne 7, 3) := by decide +kernel
theorem dX3_count_5 : decode cX3_count 5 = .ok (.iconst 0, 1) := by decide +kernel
theorem dX3_count_6 : decode cX3_count 6 = .ok (.goto 32, 3) := by decide +kernel
theorem dX3_count_9 : decode cX3_count 9 = .ok (.iconst 1, 1) := by decide +kernel
theorem dX3_count_10 : decode cX3_count 10 = .ok (.aload_n 0, 1) := by decide +kernel
theorem dX3_count_11 : decode cX3_count 11 = .ok (.aload_n 0, 1) := by decide +kernel
theorem dX3_count_12 : decode cX3_count 12 = .ok (.getfield 9, 3) := by decide +kernel
theorem dX3_count_15 : decode cX3_count 15 = .ok (.bipush 40, 2) := by decide +kernel
theorem dX3_count_17 : decode cX3_count 17 = .ok (.iload_n 1, 1) := by decide +kernel
theorem dX3_count_18 : decode cX3_count 18 = .ok (.iadd, 1) := by decide +kernel
theorem dX3_count_19 : decode cX3_count 19 = .ok (.iaload, 1) := by decide +kernel
theorem dX3_count_20 : decode cX3_count 20 = .ok (.invokevirtual 50, 3) := by decide +kernel
theorem dX3_count_23 : decode cX3_count 23 = .ok (.iadd, 1) := by decide +kernel
theorem dX3_count_24 : decode cX3_count 24 = .ok (.aload_n 0, 1) := by decide +kernel
theorem dX3_count_25 : decode cX3_count 25 = .ok (.aload_n 0, 1) := by decide +kernel
theorem dX3_count_26 : decode cX3_count 26 = .ok (.getfield 9, 3) := by decide +kernel
theorem dX3_count_29 : decode cX3_count 29 = .ok (.bipush 80, 2) := by decide +kernel
theorem dX3_count_31 : decode cX3_count 31 = .ok (.iload_n 1, 1) := by decide +kernel
theorem dX3_count_32 : decode cX3_count 32 = .ok (.iadd, 1) := by decide +kernel
theorem dX3_count_33 : decode cX3_count 33 = .ok (.iaload, 1) := by decide +kernel
theorem dX3_count_34 : decode cX3_count 34 = .ok (.invokevirtual 50, 3) := by decide +kernel
theorem dX3_count_37 : decode cX3_count 37 = .ok (.iadd, 1) := by decide +kernel
theorem dX3_count_38 : decode cX3_count 38 = .ok (.ireturn, 1) := by decide +kernel
set_option maxRecDepth 20000 in
theorem ggX3_high_X3_high : GoodIn wsX3_high wsX3_high := goodIn_r _ [0, 1, 2, 3, 4, 5, 6, 7, 8, 9, 10, 11, 12, 13, 14, 15] (by decide +kernel) (by decide +kernel)
set_option maxRecDepth 20000 in
theorem gX3_high_X3_high : GoodIn wsX3_high (wsV RX3 53 RX3 yX3_high wsX3_high) := goodIn_app (goodIn_of _ (by decide +kernel)) ggX3_high_X3_high
theorem dX3_high_0 : decode cX3_high 0 = .ok (.iload_n 1, 1) := by decide +kernel
theorem dX3_high_1 : decode cX3_high 1 = .ok (.iconst (-1), 1) := by decide +kernel
theorem dX3_high_2 : decode cX3_high 2 = .ok (.if_icmp .ne 7, 3) := by decide +kernel
theorem dX3_high_5 : decode cX3_high 5 = .ok (.iconst 0, 1) := by decide +kernel
theorem dX3_high_6 : decode cX3_high 6 = .ok (.goto 34, 3) := by decide +kernel
theorem dX3_high_9 : decode cX3_high 9 = .ok (.iconst 1, 1) := by decide +kernel
theorem dX3_high_10 : decode cX3_high 10 = .ok (.aload_n 0, 1) := by decide +kernel
theorem dX3_high_11 : decode cX3_high 11 = .ok (.aload_n 0, 1) := by decide +kernel
theorem dX3_high_12 : decode cX3_high 12 = .ok (.getfield 9, 3) := by decide +kernel
theorem dX3_high_15 : decode cX3_high 15 = .ok (.bipush 40, 2) := by decide +kernel
theorem dX3_high_17 : decode cX3_high 17 = .ok (.iload_n 1, 1) := by decide +kernel
theorem dX3_high_18 : decode cX3_high 18 = .ok (.iadd, 1) := by decide +kernel
theorem dX3_high_19 : decode cX3_high 19 = .ok (.iaload, 1) := by decide +kernel
theorem dX3_high_20 : decode cX3_high 20 = .ok (.invokevirtual 53, 3) := by decide +kernel
theorem dX3_high_23 : decode cX3_high 23 = .ok (.aload_n 0, 1) := by decide +kernel
theorem dX3_high_24 : decode cX3_high 24 = .ok (.aload_n 0, 1) := by decide +kernel
theorem dX3_high_25 : decode cX3_high 25 = .ok (.getfield 9, 3) := by decide +kernel
theorem dX3_high_28 : decode cX3_high 28 = .ok (.bipush 80, 2) := by decide +kernel
theorem dX3_high_30 : decode cX3_high 30 = .ok (.iload_n 1, 1) := by decide +kernel
theorem dX3_high_31 : decode cX3_high 31 = .ok (.iadd, 1) := by decide +kernel
theorem dX3_high_32 : decode cX3_high 32 = .ok (.iaload, 1) := by decide +kernel
theorem dX3_high_33 : decode cX3_high 33 = .ok (.invokevirtual 53, 3) := by decide +kernel
theorem dX3_high_36 : decode cX3_high 36 = .ok (.invokestatic 56, 3) := by decide +kernel
theorem dX3_high_39 : decode cX3_high 39 = .ok (.iadd, 1) := by decide +kernel
theorem dX3_high_40 : decode cX3_high 40 = .ok (.ireturn, 1) := by decide +kernel
set_option maxRecDepth 20000 in
theorem ggX3_depthsOf_X3_depthsOf : GoodIn wsX3_depthsOf wsX3_depthsOf := goodIn_r _ [0, 1, 2, 3, 4, 5, 6, 7, 8, 9, 10, 11] (by decide +kernel) (by decide +kernel)
set_option maxRecDepth 20000 in
theorem gX3_depthsOf_X3_depthsOf : GoodIn wsX3_depthsOf (wsV RX3 62 RX3 yX3_depthsOf wsX3_depthsOf) := goodIn_app (goodIn_of _ (by decide +kernel)) ggX3_depthsOf_X3_depthsOf
theorem dX3_depthsOf_0 : decode cX3_depthsOf 0 = .ok (.iload_n 1, 1) := by decide +kernel
theorem dX3_depthsOf_1 : decode cX3_depthsOf 1 = .ok (.iconst (-1), 1) := by decide +kernel
theorem dX3_depthsOf_2 : decode cX3_depthsOf 2 = .ok (.if_icmp .ne 7, 3) := by decide +kernel
theorem dX3_depthsOf_5 : decode cX3_depthsOf 5 = .ok (.iconst 0, 1) := by decide +kernel
theorem dX3_depthsOf_6 : decode cX3_depthsOf 6 = .ok (.goto 38, 3) := by decide +kernel
theorem dX3_depthsOf_9 : decode cX3_depthsOf 9 = .ok (.iload_n 2, 1) := by decide +kernel
theorem dX3_depthsOf_10 : decode cX3_depthsOf 10 = .ok (.aload_n 0, 1) := by decide +kernel
theorem dX3_depthsOf_11 : decode cX3_depthsOf 11 = .ok (.aload_n 0, 1) := by decide +kernel
theorem dX3_depthsOf_12 : decode cX3_depthsOf 12 = .ok (.getfield 9, 3) := by decide +kernel
theorem dX3_depthsOf_15 : decode cX3_depthsOf 15 = .ok (.bipush 40, 2) := by decide +kernel
theorem dX3_depthsOf_17 : decode cX3_depthsOf 17 = .ok (.iload_n 1, 1) := by decide +kernel
theorem dX3_depthsOf_18 : decode cX3_depthsOf 18 = .ok (.iadd, 1) := by decide +kernel
theorem dX3_depthsOf_19 : decode cX3_depthsOf 19 = .ok (.iaload, 1) := by decide +kernel
theorem dX3_depthsOf_20 : decode cX3_depthsOf 20 = .ok (.iload_n 2, 1) := by decide +kernel
theorem dX3_depthsOf_21 : decode cX3_depthsOf 21 = .ok (.iconst 1, 1) := by decide +kernel
theorem dX3_depthsOf_22 : decode cX3_depthsOf 22 = .ok (.iadd, 1) := by decide +kernel
theorem dX3_depthsOf_23 : decode cX3_depthsOf 23 = .ok (.invokevirtual 62, 3) := by decide +kernel
theorem dX3_depthsOf_26 : decode cX3_depthsOf 26 = .ok (.iadd, 1) := by decide +kernel
theorem dX3_depthsOf_27 : decode cX3_depthsOf 27 = .ok (.aload_n 0, 1) := by decide +kernel
theorem dX3_depthsOf_28 : decode cX3_depthsOf 28 = .ok (.aload_n 0, 1) := by decide +kernel
theorem dX3_depthsOf_29 : decode cX3_depthsOf 29 = .ok (.getfield 9, 3) := by decide +kernel
theorem dX3_depthsOf_32 : decode cX3_depthsOf 32 = .ok (.bipush 80, 2) := by decide +kernel
theorem dX3_depthsOf_34 : decode cX3_depthsOf 34 = .ok (.iload_n 1, 1) := by decide +kernel
theorem dX3_depthsOf_35 : decode cX3_depthsOf 35 = .ok (.iadd, 1) := by decide +kernel
theorem dX3_depthsOf_36 : decode cX3_depthsOf 36 = .ok (.iaload, 1) := by decide +kernel
theorem dX3_depthsOf_37 : decode cX3_depthsOf 37 = .ok (.iload_n 2, 1) := by decide +kernel
theorem dX3_depthsOf_38 : decode cX3_depthsOf 38 = .ok (.iconst 1, 1) := by decide +kernel
theorem dX3_depthsOf_39 : decode cX3_depthsOf 39 = .ok (.iadd, 1) := by decide +kernel
theorem dX3_depthsOf_40 : decode cX3_depthsOf 40 = .ok (.invokevirtual 62, 3) := by decide +kernel
theorem dX3_depthsOf_43 : decode cX3_depthsOf 43 = .ok (.iadd, 1) := by decide +kernel
theorem dX3_depthsOf_44 : decode cX3_depthsOf 44 = .ok (.ireturn, 1) := by decide +kernel
set_option maxRecDepth 20000 in
theorem ggX3_ends_X3_ends : GoodIn wsX3_ends wsX3_ends := goodIn_r _ [0, 1, 2, 3, 4, 5, 6, 7, 8, 9, 10, 11] (by decide +kernel) (by decide +kernel)
set_option maxRecDepth 20000 in
theorem gX3_ends_X3_ends : GoodIn wsX3_ends (wsV RX3 65 RX3 yX3_ends wsX3_ends) := goodIn_app (goodIn_of _ (by decide +kernel)) ggX3_ends_X3_ends
theorem dX3_ends_0 : decode cX3_ends 0 = .ok (.iload_n 1, 1) := by decide +kernel
theorem dX3_ends_1 : decode cX3_ends 1 = .ok (.iconst (-1), 1) := by decide +kernel
theorem dX3_ends_2 : decode cX3_ends 2 = .ok (.if_icmp .ne 5, 3) := by decide +kernel
theorem dX3_ends_5 : decode cX3_ends 5 = .ok (.iconst 0, 1) := by decide +kernel
theorem dX3_ends_6 : decode cX3_ends 6 = .ok (.ireturn, 1) := by decide +kernel
theorem dX3_ends_7 : decode cX3_ends 7 = .ok (.aload_n 0, 1) := by decide +kernel
theorem dX3_ends_8 : decode cX3_ends 8 = .ok (.getfield 9, 3) := by decide +kernel
theorem dX3_ends_11 : decode cX3_ends 11 = .ok (.bipush 40, 2) := by decide +kernel
theorem dX3_ends_13 : decode cX3_ends 13 = .ok (.iload_n 1, 1) := by decide +kernel
theorem dX3_ends_14 : decode cX3_ends 14 = .ok (.iadd, 1) := by decide +kernel
theorem dX3_ends_15 : decode cX3_ends 15 = .ok (.iaload, 1) := by decide +kernel
theorem dX3_ends_16 : decode cX3_ends 16 = .ok (.iconst (-1), 1) := by decide +kernel
theorem dX3_ends_17 : decode cX3_ends 17 = .ok (.if_icmp .ne 20, 3) := by decide +kernel
theorem dX3_ends_20 : decode cX3_ends 20 = .ok (.aload_n 0, 1) := by decide +kernel
theorem dX3_ends_21 : decode cX3_ends 21 = .ok (.getfield 9, 3) := by decide +kernel
theorem dX3_ends_24 : decode cX3_ends 24 = .ok (.bipush 80, 2) := by decide +kernel
theorem dX3_ends_26 : decode cX3_ends 26 = .ok (.iload_n 1, 1) := by decide +kernel
theorem dX3_ends_27 : decode cX3_ends 27 = .ok (.iadd, 1) := by decide +kernel
theorem dX3_ends_28 : decode cX3_ends 28 = .ok (.iaload, 1) := by decide +kernel
theorem dX3_ends_29 : decode cX3_ends 29 = .ok (.iconst (-1), 1) := by decide +kernel
theorem dX3_ends_30 : decode cX3_ends 30 = .ok (.if_icmp .ne 7, 3) := by decide +kernel
theorem dX3_ends_33 : decode cX3_ends 33 = .ok (.iconst 1, 1) := by decide +kernel
theorem dX3_ends_34 : decode cX3_ends 34 = .ok (.goto 30, 3) := by decide +kernel
theorem dX3_ends_37 : decode cX3_ends 37 = .ok (.aload_n 0, 1) := by decide +kernel
theorem dX3_ends_38 : decode cX3_ends 38 = .ok (.aload_n 0, 1) := by decide +kernel
theorem dX3_ends_39 : decode cX3_ends 39 = .ok (.getfield 9, 3) := by decide +kernel
theorem dX3_ends_42 : decode cX3_ends 42 = .ok (.bipush 40, 2) := by decide +kernel
theorem dX3_ends_44 : decode cX3_ends 44 = .ok (.iload_n 1, 1) := by decide +kernel
theorem dX3_ends_45 : decode cX3_ends 45 = .ok (.iadd, 1) := by decide +kernel
theorem dX3_ends_46 : decode cX3_ends 46 = .ok (.iaload, 1) := by decide +kernel
theorem dX3_ends_47 : decode cX3_ends 47 = .ok (.invokevirtual 65, 3) := by decide +kernel
theorem dX3_ends_50 : decode cX3_ends 50 = .ok (.aload_n 0, 1) := by decide +kernel
theorem dX3_ends_51 : decode cX3_ends 51 = .ok (.aload_n 0, 1) := by decide +kernel
theorem dX3_ends_52 : decode cX3_ends 52 = .ok (.getfield 9, 3) := by decide +kernel
theorem dX3_ends_55 : decode cX3_ends 55 = .ok (.bipush 80, 2) := by decide +kernel
theorem dX3_ends_57 : decode cX3_ends 57 = .ok (.iload_n 1, 1) := by decide +kernel
theorem dX3_ends_58 : decode cX3_ends 58 = .ok (.iadd, 1) := by decide +kernel
theorem dX3_ends_59 : decode cX3_ends 59 = .ok (.iaload, 1) := by decide +kernel
theorem dX3_ends_60 : decode cX3_ends 60 = .ok (.invokevirtual 65, 3) := by decide +kernel
theorem dX3_ends_63 : decode cX3_ends 63 = .ok (.iadd, 1) := by decide +kernel
theorem dX3_ends_64 : decode cX3_ends 64 = .ok (.ireturn, 1) := by decide +kernel
set_option maxRecDepth 20000 in
theorem ggX3_under_X3_count : GoodIn wsX3_under wsX3_count := goodIn_r _ [6, 1, 2, 3, 4, 5, 10, 11, 12, 13, 14, 15] (by decide +kernel) (by decide +kernel)
set_option maxRecDepth 20000 in
theorem gX3_under_X3_count : GoodIn wsX3_under (wsV RX3 50 RX3 yX3_count wsX3_count) := goodIn_app (goodIn_of _ (by decide +kernel)) ggX3_under_X3_count
set_option maxRecDepth 20000 in
theorem ggX3_under_X3_under : GoodIn wsX3_under wsX3_under := goodIn_r _ [0, 1, 2, 3, 4, 5, 6, 7, 8, 9, 10, 11, 12, 13, 14, 15] (by decide +kernel) (by decide +kernel)
set_option maxRecDepth 20000 in
theorem gX3_under_X3_under : GoodIn wsX3_under (wsV RX3 68 RX3 yX3_under wsX3_under) := goodIn_app (goodIn_of _ (by decide +kernel)) ggX3_under_X3_under
theorem dX3_under_0 : decode cX3_under 0 = .ok (.iload_n 1, 1) := by decide +kernel
theorem dX3_under_1 : decode cX3_under 1 = .ok (.iconst (-1), 1) := by decide +kernel
theorem dX3_under_2 : decode cX3_under 2 = .ok (.if_icmp .ne 5, 3) := by decide +kernel
theorem dX3_under_5 : decode cX3_under 5 = .ok (.iconst 0, 1) := by decide +kernel
theorem dX3_under_6 : decode cX3_under 6 = .ok (.ireturn, 1) := by decide +kernel
theorem dX3_under_7 : decode cX3_under 7 = .ok (.aload_n 0, 1) := by decide +kernel
theorem dX3_under_8 : decode cX3_under 8 = .ok (.getfield 9, 3) := by decide +kernel
theorem dX3_under_11 : decode cX3_under 11 = .ok (.iconst 0, 1) := by decide +kernel
theorem dX3_under_12 : decode cX3_under 12 = .ok (.iload_n 1, 1) := by decide +kernel
theorem dX3_under_13 : decode cX3_under 13 = .ok (.iadd, 1) := by decide +kernel
theorem dX3_under_14 : decode cX3_under 14 = .ok (.iaload, 1) := by decide +kernel
theorem dX3_under_15 : decode cX3_under 15 = .ok (.iload_n 2, 1) := by decide +kernel
theorem dX3_under_16 : decode cX3_under 16 = .ok (.if_icmp .ge 36, 3) := by decide +kernel
theorem dX3_under_19 : decode cX3_under 19 = .ok (.iconst 1, 1) := by decide +kernel
theorem dX3_under_20 : decode cX3_under 20 = .ok (.aload_n 0, 1) := by decide +kernel
theorem dX3_under_21 : decode cX3_under 21 = .ok (.aload_n 0, 1) := by decide +kernel
theorem dX3_under_22 : decode cX3_under 22 = .ok (.getfield 9, 3) := by decide +kernel
theorem dX3_under_25 : decode cX3_under 25 = .ok (.bipush 40, 2) := by decide +kernel
theorem dX3_under_27 : decode cX3_under 27 = .ok (.iload_n 1, 1) := by decide +kernel
theorem dX3_under_28 : decode cX3_under 28 = .ok (.iadd, 1) := by decide +kernel
theorem dX3_under_29 : decode cX3_under 29 = .ok (.iaload, 1) := by decide +kernel
theorem dX3_under_30 : decode cX3_under 30 = .ok (.invokevirtual 50, 3) := by decide +kernel
theorem dX3_under_33 : decode cX3_under 33 = .ok (.iadd, 1) := by decide +kernel
theorem dX3_under_34 : decode cX3_under 34 = .ok (.aload_n 0, 1) := by decide +kernel
theorem dX3_under_35 : decode cX3_under 35 = .ok (.aload_n 0, 1) := by decide +kernel
theorem dX3_under_36 : decode cX3_under 36 = .ok (.getfield 9, 3) := by decide +kernel
theorem dX3_under_39 : decode cX3_under 39 = .ok (.bipush 80, 2) := by decide +kernel
theorem dX3_under_41 : decode cX3_under 41 = .ok (.iload_n 1, 1) := by decide +kernel
theorem dX3_under_42 : decode cX3_under 42 = .ok (.iadd, 1) := by decide +kernel
theorem dX3_under_43 : decode cX3_under 43 = .ok (.iaload, 1) := by decide +kernel
theorem dX3_under_44 : decode cX3_under 44 = .ok (.iload_n 2, 1) := by decide +kernel
theorem dX3_under_45 : decode cX3_under 45 = .ok (.invokevirtual 68, 3) := by decide +kernel
theorem dX3_under_48 : decode cX3_under 48 = .ok (.iadd, 1) := by decide +kernel
theorem dX3_under_49 : decode cX3_under 49 = .ok (.goto 17, 3) := by decide +kernel
theorem dX3_under_52 : decode cX3_under 52 = .ok (.aload_n 0, 1) := by decide +kernel
theorem dX3_under_53 : decode cX3_under 53 = .ok (.aload_n 0, 1) := by decide +kernel
theorem dX3_under_54 : decode cX3_under 54 = .ok (.getfield 9, 3) := by decide +kernel
theorem dX3_under_57 : decode cX3_under 57 = .ok (.bipush 40, 2) := by decide +kernel
theorem dX3_under_59 : decode cX3_under 59 = .ok (.iload_n 1, 1) := by decide +kernel
theorem dX3_under_60 : decode cX3_under 60 = .ok (.iadd, 1) := by decide +kernel
theorem dX3_under_61 : decode cX3_under 61 = .ok (.iaload, 1) := by decide +kernel
theorem dX3_under_62 : decode cX3_under 62 = .ok (.iload_n 2, 1) := by decide +kernel
theorem dX3_under_63 : decode cX3_under 63 = .ok (.invokevirtual 68, 3) := by decide +kernel
theorem dX3_under_66 : decode cX3_under 66 = .ok (.ireturn, 1) := by decide +kernel
set_option maxRecDepth 20000 in
theorem ggX3_nth_X3_count : GoodIn wsX3_nth wsX3_count := goodIn_r _ [6, 1, 2, 3, 4, 5, 10, 11, 12, 13, 14, 15] (by decide +kernel) (by decide +kernel)
set_option maxRecDepth 20000 in
theorem gX3_nth_X3_count : GoodIn wsX3_nth (wsV RX3 50 RX3 yX3_count wsX3_count) := goodIn_app (goodIn_of _ (by decide +kernel)) ggX3_nth_X3_count
set_option maxRecDepth 20000 in
theorem ggX3_nth_X3_nth : GoodIn wsX3_nth wsX3_nth := goodIn_r _ [0, 1, 2, 3, 4, 5, 6, 7, 8, 9, 10, 11, 12, 13, 14, 15] (by decide +kernel) (by decide +kernel)
set_option maxRecDepth 20000 in
theorem gX3_nth_X3_nth : GoodIn wsX3_nth (wsV RX3 71 RX3 yX3_nth wsX3_nth) := goodIn_app (goodIn_of _ (by decide +kernel)) ggX3_nth_X3_nth
theorem dX3_nth_0 : decode cX3_nth 0 = .ok (.aload_n 0, 1) := by decide +kernel
theorem dX3_nth_1 : decode cX3_nth 1 = .ok (.aload_n 0, 1) := by decide +kernel
theorem dX3_nth_2 : decode cX3_nth 2 = .ok (.getfield 9, 3) := by decide +kernel
theorem dX3_nth_5 : decode cX3_nth 5 = .ok (.bipush 40, 2) := by decide +kernel
theorem dX3_nth_7 : decode cX3_nth 7 = .ok (.iload_n 1, 1) := by decide +kernel
theorem dX3_nth_8 : decode cX3_nth 8 = .ok (.iadd, 1) := by decide +kernel
theorem dX3_nth_9 : decode cX3_nth 9 = .ok (.iaload, 1) := by decide +kernel
theorem dX3_nth_10 : decode cX3_nth 10 = .ok (.invokevirtual 50, 3) := by decide +kernel
theorem dX3_nth_13 : decode cX3_nth 13 = .ok (.istore_n 3, 1) := by decide +kernel
theorem dX3_nth_14 : decode cX3_nth 14 = .ok (.iload_n 2, 1) := by decide +kernel
theorem dX3_nth_15 : decode cX3_nth 15 = .ok (.iload_n 3, 1) := by decide +kernel
theorem dX3_nth_16 : decode cX3_nth 16 = .ok (.if_icmp .ne 5, 3) := by decide +kernel
theorem dX3_nth_19 : decode cX3_nth 19 = .ok (.iload_n 1, 1) := by decide +kernel
theorem dX3_nth_20 : decode cX3_nth 20 = .ok (.ireturn, 1) := by decide +kernel
theorem dX3_nth_21 : decode cX3_nth 21 = .ok (.iload_n 2, 1) := by decide +kernel
theorem dX3_nth_22 : decode cX3_nth 22 = .ok (.iload_n 3, 1) := by decide +kernel
theorem dX3_nth_23 : decode cX3_nth 23 = .ok (.if_icmp .ge 20, 3) := by decide +kernel
theorem dX3_nth_26 : decode cX3_nth 26 = .ok (.aload_n 0, 1) := by decide +kernel
theorem dX3_nth_27 : decode cX3_nth 27 = .ok (.aload_n 0, 1) := by decide +kernel
theorem dX3_nth_28 : decode cX3_nth 28 = .ok (.getfield 9, 3) := by decide +kernel
theorem dX3_nth_31 : decode cX3_nth 31 = .ok (.bipush 40, 2) := by decide +kernel
theorem dX3_nth_33 : decode cX3_nth 33 = .ok (.iload_n 1, 1) := by decide +kernel
theorem dX3_nth_34 : decode cX3_nth 34 = .ok (.iadd, 1) := by decide +kernel
theorem dX3_nth_35 : decode cX3_nth 35 = .ok (.iaload, 1) := by decide +kernel
theorem dX3_nth_36 : decode cX3_nth 36 = .ok (.iload_n 2, 1) := by decide +kernel
theorem dX3_nth_37 : decode cX3_nth 37 = .ok (.invokevirtual 71, 3) := by decide +kernel
theorem dX3_nth_40 : decode cX3_nth 40 = .ok (.goto 21, 3) := by decide +kernel
theorem dX3_nth_43 : decode cX3_nth 43 = .ok (.aload_n 0, 1) := by decide +kernel
theorem dX3_nth_44 : decode cX3_nth 44 = .ok (.aload_n 0, 1) := by decide +kernel
theorem dX3_nth_45 : decode cX3_nth 45 = .ok (.getfield 9, 3) := by decide +kernel
theorem dX3_nth_48 : decode cX3_nth 48 = .ok (.bipush 80, 2) := by decide +kernel
theorem dX3_nth_50 : decode cX3_nth 50 = .ok (.iload_n 1, 1) := by decide +kernel
theorem dX3_nth_51 : decode cX3_nth 51 = .ok (.iadd, 1) := by decide +kernel
theorem dX3_nth_52 : decode cX3_nth 52 = .ok (.iaload, 1) := by decide +kernel
theorem dX3_nth_53 : decode cX3_nth 53 = .ok (.iload_n 2, 1) := by decide +kernel
theorem dX3_nth_54 : decode cX3_nth 54 = .ok (.iload_n 3, 1) := by decide +kernel
theorem dX3_nth_55 : decode cX3_nth 55 = .ok (.isub, 1) := by decide +kernel
theorem dX3_nth_56 : decode cX3_nth 56 = .ok (.iconst 1, 1) := by decide +kernel
theorem dX3_nth_57 : decode cX3_nth 57 = .ok (.isub, 1) := by decide +kernel
theorem dX3_nth_58 : decode cX3_nth 58 = .ok (.invokevirtual 71, 3) := by decide +kernel
theorem dX3_nth_61 : decode cX3_nth 61 = .ok (.ireturn, 1) := by decide +kernel
theorem dX3_sizeAt_0 : decode cX3_sizeAt 0 = .ok (.iload_n 1, 1) := by decide +kernel
theorem dX3_sizeAt_1 : decode cX3_sizeAt 1 = .ok (.iconst (-1), 1) := by decide +kernel
theorem dX3_sizeAt_2 : decode cX3_sizeAt 2 = .ok (.if_icmp .ne 7, 3) := by decide +kernel
theorem dX3_sizeAt_5 : decode cX3_sizeAt 5 = .ok (.iconst (-1), 1) := by decide +kernel
theorem dX3_sizeAt_6 : decode cX3_sizeAt 6 = .ok (.goto 11, 3) := by decide +kernel
theorem dX3_sizeAt_9 : decode cX3_sizeAt 9 = .ok (.aload_n 0, 1) := by decide +kernel
theorem dX3_sizeAt_10 : decode cX3_sizeAt 10 = .ok (.getfield 9, 3) := by decide +kernel
theorem dX3_sizeAt_13 : decode cX3_sizeAt 13 = .ok (.iconst 0, 1) := by decide +kernel
theorem dX3_sizeAt_14 : decode cX3_sizeAt 14 = .ok (.iload_n 1, 1) := by decide +kernel
theorem dX3_sizeAt_15 : decode cX3_sizeAt 15 = .ok (.iadd, 1) := by decide +kernel
theorem dX3_sizeAt_16 : decode cX3_sizeAt 16 = .ok (.iaload, 1) := by decide +kernel
theorem dX3_sizeAt_17 : decode cX3_sizeAt 17 = .ok (.ireturn, 1) := by decide +kernel
theorem dX3_plantDeep_0 : decode cX3_plantDeep 0 = .ok (.iconst 0, 1) := by decide +kernel
theorem dX3_plantDeep_1 : decode cX3_plantDeep 1 = .ok (.istore_n 3, 1) := by decide +kernel
theorem dX3_plantDeep_2 : decode cX3_plantDeep 2 = .ok (.aload_n 0, 1) := by decide +kernel
theorem dX3_plantDeep_3 : decode cX3_plantDeep 3 = .ok (.getfield 9, 3) := by decide +kernel
theorem dX3_plantDeep_6 : decode cX3_plantDeep 6 = .ok (.sipush 200, 3) := by decide +kernel
theorem dX3_plantDeep_9 : decode cX3_plantDeep 9 = .ok (.iload_n 1, 1) := by decide +kernel
theorem dX3_plantDeep_10 : decode cX3_plantDeep 10 = .ok (.iadd, 1) := by decide +kernel
theorem dX3_plantDeep_11 : decode cX3_plantDeep 11 = .ok (.iaload, 1) := by decide +kernel
theorem dX3_plantDeep_12 : decode cX3_plantDeep 12 = .ok (.istore 4, 2) := by decide +kernel
theorem dX3_plantDeep_14 : decode cX3_plantDeep 14 = .ok (.iload 4, 2) := by decide +kernel
theorem dX3_plantDeep_16 : decode cX3_plantDeep 16 = .ok (.iconst (-1), 1) := by decide +kernel
theorem dX3_plantDeep_17 : decode cX3_plantDeep 17 = .ok (.if_icmp .eq 52, 3) := by decide +kernel
theorem dX3_plantDeep_20 : decode cX3_plantDeep 20 = .ok (.aload_n 0, 1) := by decide +kernel
theorem dX3_plantDeep_21 : decode cX3_plantDeep 21 = .ok (.getfield 9, 3) := by decide +kernel
theorem dX3_plantDeep_24 : decode cX3_plantDeep 24 = .ok (.iconst 0, 1) := by decide +kernel
theorem dX3_plantDeep_25 : decode cX3_plantDeep 25 = .ok (.iload 4, 2) := by decide +kernel
theorem dX3_plantDeep_27 : decode cX3_plantDeep 27 = .ok (.iadd, 1) := by decide +kernel
theorem dX3_plantDeep_28 : decode cX3_plantDeep 28 = .ok (.iaload, 1) := by decide +kernel
theorem dX3_plantDeep_29 : decode cX3_plantDeep 29 = .ok (.iload_n 2, 1) := by decide +kernel
theorem dX3_plantDeep_30 : decode cX3_plantDeep 30 = .ok (.if_icmp .eq 39, 3) := by decide +kernel
theorem dX3_plantDeep_33 : decode cX3_plantDeep 33 = .ok (.iinc 3 1, 3) := by decide +kernel
theorem dX3_plantDeep_36 : decode cX3_plantDeep 36 = .ok (.aload_n 0, 1) := by decide +kernel
theorem dX3_plantDeep_37 : decode cX3_plantDeep 37 = .ok (.getfield 9, 3) := by decide +kernel
theorem dX3_plantDeep_40 : decode cX3_plantDeep 40 = .ok (.iload_n 2, 1) := by decide +kernel
theorem dX3_plantDeep_41 : decode cX3_plantDeep 41 = .ok (.aload_n 0, 1) := by decide +kernel
theorem dX3_plantDeep_42 : decode cX3_plantDeep 42 = .ok (.getfield 9, 3) := by decide +kernel
theorem dX3_plantDeep_45 : decode cX3_plantDeep 45 = .ok (.iconst 0, 1) := by decide +kernel
theorem dX3_plantDeep_46 : decode cX3_plantDeep 46 = .ok (.iload 4, 2) := by decide +kernel
theorem dX3_plantDeep_48 : decode cX3_plantDeep 48 = .ok (.iadd, 1) := by decide +kernel
theorem dX3_plantDeep_49 : decode cX3_plantDeep 49 = .ok (.iaload, 1) := by decide +kernel
theorem dX3_plantDeep_50 : decode cX3_plantDeep 50 = .ok (.if_icmp .ge 8, 3) := by decide +kernel
theorem dX3_plantDeep_53 : decode cX3_plantDeep 53 = .ok (.bipush 40, 2) := by decide +kernel
theorem dX3_plantDeep_55 : decode cX3_plantDeep 55 = .ok (.goto 5, 3) := by decide +kernel
theorem dX3_plantDeep_58 : decode cX3_plantDeep 58 = .ok (.bipush 80, 2) := by decide +kernel
theorem dX3_plantDeep_60 : decode cX3_plantDeep 60 = .ok (.iload 4, 2) := by decide +kernel
theorem dX3_plantDeep_62 : decode cX3_plantDeep 62 = .ok (.iadd, 1) := by decide +kernel
theorem dX3_plantDeep_63 : decode cX3_plantDeep 63 = .ok (.iaload, 1) := by decide +kernel
theorem dX3_plantDeep_64 : decode cX3_plantDeep 64 = .ok (.istore 4, 2) := by decide +kernel
theorem dX3_plantDeep_66 : decode cX3_plantDeep 66 = .ok (.goto (-52), 3) := by decide +kernel
theorem dX3_plantDeep_69 : decode cX3_plantDeep 69 = .ok (.iload 4, 2) := by decide +kernel
theorem dX3_plantDeep_71 : decode cX3_plantDeep 71 = .ok (.iconst (-1), 1) := by decide +kernel
theorem dX3_plantDeep_72 : decode cX3_plantDeep 72 = .ok (.if_icmp .ne 7, 3) := by decide +kernel
theorem dX3_plantDeep_75 : decode cX3_plantDeep 75 = .ok (.iload_n 3, 1) := by decide +kernel
theorem dX3_plantDeep_76 : decode cX3_plantDeep 76 = .ok (.goto 4, 3) := by decide +kernel
theorem dX3_plantDeep_79 : decode cX3_plantDeep 79 = .ok (.iconst (-1), 1) := by decide +kernel
theorem dX3_plantDeep_80 : decode cX3_plantDeep 80 = .ok (.ireturn, 1) := by decide +kernel
set_option maxRecDepth 20000 in
theorem ggX3_planted_X3_free : GoodIn wsX3_planted wsX3_free := goodIn_r _ [7, 1, 36, 37, 38, 39, 40, 41] (by decide +kernel) (by decide +kernel)
set_option maxRecDepth 20000 in
theorem gX3_planted_X3_free : GoodIn wsX3_planted (wsV RX3 74 RX3 yX3_free wsX3_free) := goodIn_app (goodIn_of _ (by decide +kernel)) ggX3_planted_X3_free
set_option maxRecDepth 20000 in
theorem ggX3_planted_X3_hang : GoodIn wsX3_planted wsX3_hang := goodIn_r _ [11, 1, 36, 37, 38, 39, 40, 41] (by decide +kernel) (by decide +kernel)
set_option maxRecDepth 20000 in
theorem gX3_planted_X3_hang : GoodIn wsX3_planted (wsV RX3 39 RX3 yX3_hang wsX3_hang) := goodIn_app (goodIn_of _ (by decide +kernel)) ggX3_planted_X3_hang
set_option maxRecDepth 20000 in
theorem ggX3_planted_X3_deep : GoodIn wsX3_planted wsX3_deep := goodIn_r _ [15, 1, 36, 37, 38, 39, 40, 41] (by decide +kernel) (by decide +kernel)
set_option maxRecDepth 20000 in
theorem gX3_planted_X3_deep : GoodIn wsX3_planted (wsV RX3 81 RX3 yX3_deep wsX3_deep) := goodIn_app (goodIn_of _ (by decide +kernel)) ggX3_planted_X3_deep
set_option maxRecDepth 20000 in
theorem ggX3_planted_X3_raiseIn : GoodIn wsX3_planted wsX3_raiseIn := goodIn_r _ [19, 1, 20, 21, 22, 6, 23, 24, 25, 26, 27, 28, 29, 30, 31, 32, 33, 34, 35, 8, 9, 10, 11, 36, 37, 38, 39, 40, 41] (by decide +kernel) (by decide +kernel)
set_option maxRecDepth 20000 in
theorem gX3_planted_X3_raiseIn : GoodIn wsX3_planted (wsV RX3 84 RX3 yX3_raiseIn wsX3_raiseIn) := goodIn_app (goodIn_of _ (by decide +kernel)) ggX3_planted_X3_raiseIn
theorem dX3_planted_0 : decode cX3_planted 0 = .ok (.aload_n 0, 1) := by decide +kernel
theorem dX3_planted_1 : decode cX3_planted 1 = .ok (.invokevirtual 74, 3) := by decide +kernel
theorem dX3_planted_4 : decode cX3_planted 4 = .ok (.istore_n 3, 1) := by decide +kernel
theorem dX3_planted_5 : decode cX3_planted 5 = .ok (.iconst (-1), 1) := by decide +kernel
theorem dX3_planted_6 : decode cX3_planted 6 = .ok (.istore 4, 2) := by decide +kernel
theorem dX3_planted_8 : decode cX3_planted 8 = .ok (.bipush 40, 2) := by decide +kernel
theorem dX3_planted_10 : decode cX3_planted 10 = .ok (.istore 5, 2) := by decide +kernel
theorem dX3_planted_12 : decode cX3_planted 12 = .ok (.aload_n 0, 1) := by decide +kernel
theorem dX3_planted_13 : decode cX3_planted 13 = .ok (.getfield 9, 3) := by decide +kernel
theorem dX3_planted_16 : decode cX3_planted 16 = .ok (.sipush 200, 3) := by decide +kernel
theorem dX3_planted_19 : decode cX3_planted 19 = .ok (.iload_n 1, 1) := by decide +kernel
theorem dX3_planted_20 : decode cX3_planted 20 = .ok (.iadd, 1) := by decide +kernel
theorem dX3_planted_21 : decode cX3_planted 21 = .ok (.iaload, 1) := by decide +kernel
theorem dX3_planted_22 : decode cX3_planted 22 = .ok (.istore 6, 2) := by decide +kernel
theorem dX3_planted_24 : decode cX3_planted 24 = .ok (.iload 6, 2) := by decide +kernel
theorem dX3_planted_26 : decode cX3_planted 26 = .ok (.iconst (-1), 1) := by decide +kernel
theorem dX3_planted_27 : decode cX3_planted 27 = .ok (.if_icmp .eq 44, 3) := by decide +kernel
theorem dX3_planted_30 : decode cX3_planted 30 = .ok (.iload 6, 2) := by decide +kernel
theorem dX3_planted_32 : decode cX3_planted 32 = .ok (.istore 4, 2) := by decide +kernel
theorem dX3_planted_34 : decode cX3_planted 34 = .ok (.iload_n 2, 1) := by decide +kernel
theorem dX3_planted_35 : decode cX3_planted 35 = .ok (.aload_n 0, 1) := by decide +kernel
theorem dX3_planted_36 : decode cX3_planted 36 = .ok (.getfield 9, 3) := by decide +kernel
theorem dX3_planted_39 : decode cX3_planted 39 = .ok (.iconst 0, 1) := by decide +kernel
theorem dX3_planted_40 : decode cX3_planted 40 = .ok (.iload 6, 2) := by decide +kernel
theorem dX3_planted_42 : decode cX3_planted 42 = .ok (.iadd, 1) := by decide +kernel
theorem dX3_planted_43 : decode cX3_planted 43 = .ok (.iaload, 1) := by decide +kernel
theorem dX3_planted_44 : decode cX3_planted 44 = .ok (.if_icmp .ge 8, 3) := by decide +kernel
theorem dX3_planted_47 : decode cX3_planted 47 = .ok (.bipush 40, 2) := by decide +kernel
theorem dX3_planted_49 : decode cX3_planted 49 = .ok (.goto 5, 3) := by decide +kernel
theorem dX3_planted_52 : decode cX3_planted 52 = .ok (.bipush 80, 2) := by decide +kernel
theorem dX3_planted_54 : decode cX3_planted 54 = .ok (.istore 5, 2) := by decide +kernel
theorem dX3_planted_56 : decode cX3_planted 56 = .ok (.aload_n 0, 1) := by decide +kernel
theorem dX3_planted_57 : decode cX3_planted 57 = .ok (.getfield 9, 3) := by decide +kernel
theorem dX3_planted_60 : decode cX3_planted 60 = .ok (.iload 5, 2) := by decide +kernel
theorem dX3_planted_62 : decode cX3_planted 62 = .ok (.iload 6, 2) := by decide +kernel
theorem dX3_planted_64 : decode cX3_planted 64 = .ok (.iadd, 1) := by decide +kernel
theorem dX3_planted_65 : decode cX3_planted 65 = .ok (.iaload, 1) := by decide +kernel
theorem dX3_planted_66 : decode cX3_planted 66 = .ok (.istore 6, 2) := by decide +kernel
theorem dX3_planted_68 : decode cX3_planted 68 = .ok (.goto (-44), 3) := by decide +kernel
theorem dX3_planted_71 : decode cX3_planted 71 = .ok (.aload_n 0, 1) := by decide +kernel
theorem dX3_planted_72 : decode cX3_planted 72 = .ok (.getfield 9, 3) := by decide +kernel
theorem dX3_planted_75 : decode cX3_planted 75 = .ok (.iconst 0, 1) := by decide +kernel
theorem dX3_planted_76 : decode cX3_planted 76 = .ok (.iload_n 3, 1) := by decide +kernel
theorem dX3_planted_77 : decode cX3_planted 77 = .ok (.iadd, 1) := by decide +kernel
theorem dX3_planted_78 : decode cX3_planted 78 = .ok (.iload_n 2, 1) := by decide +kernel
theorem dX3_planted_79 : decode cX3_planted 79 = .ok (.iastore, 1) := by decide +kernel
theorem dX3_planted_80 : decode cX3_planted 80 = .ok (.aload_n 0, 1) := by decide +kernel
theorem dX3_planted_81 : decode cX3_planted 81 = .ok (.getfield 9, 3) := by decide +kernel
theorem dX3_planted_84 : decode cX3_planted 84 = .ok (.bipush 40, 2) := by decide +kernel
theorem dX3_planted_86 : decode cX3_planted 86 = .ok (.iload_n 3, 1) := by decide +kernel
theorem dX3_planted_87 : decode cX3_planted 87 = .ok (.iadd, 1) := by decide +kernel
theorem dX3_planted_88 : decode cX3_planted 88 = .ok (.iconst (-1), 1) := by decide +kernel
theorem dX3_planted_89 : decode cX3_planted 89 = .ok (.iastore, 1) := by decide +kernel
theorem dX3_planted_90 : decode cX3_planted 90 = .ok (.aload_n 0, 1) := by decide +kernel
theorem dX3_planted_91 : decode cX3_planted 91 = .ok (.getfield 9, 3) := by decide +kernel
theorem dX3_planted_94 : decode cX3_planted 94 = .ok (.bipush 80, 2) := by decide +kernel
theorem dX3_planted_96 : decode cX3_planted 96 = .ok (.iload_n 3, 1) := by decide +kernel
theorem dX3_planted_97 : decode cX3_planted 97 = .ok (.iadd, 1) := by decide +kernel
theorem dX3_planted_98 : decode cX3_planted 98 = .ok (.iconst (-1), 1) := by decide +kernel
theorem dX3_planted_99 : decode cX3_planted 99 = .ok (.iastore, 1) := by decide +kernel
theorem dX3_planted_100 : decode cX3_planted 100 = .ok (.aload_n 0, 1) := by decide +kernel
theorem dX3_planted_101 : decode cX3_planted 101 = .ok (.getfield 9, 3) := by decide +kernel
theorem dX3_planted_104 : decode cX3_planted 104 = .ok (.sipush 160, 3) := by decide +kernel
theorem dX3_planted_107 : decode cX3_planted 107 = .ok (.iload_n 3, 1) := by decide +kernel
theorem dX3_planted_108 : decode cX3_planted 108 = .ok (.iadd, 1) := by decide +kernel
theorem dX3_planted_109 : decode cX3_planted 109 = .ok (.iconst 0, 1) := by decide +kernel
theorem dX3_planted_110 : decode cX3_planted 110 = .ok (.iastore, 1) := by decide +kernel
theorem dX3_planted_111 : decode cX3_planted 111 = .ok (.aload_n 0, 1) := by decide +kernel
theorem dX3_planted_112 : decode cX3_planted 112 = .ok (.getfield 9, 3) := by decide +kernel
theorem dX3_planted_115 : decode cX3_planted 115 = .ok (.bipush 120, 2) := by decide +kernel
theorem dX3_planted_117 : decode cX3_planted 117 = .ok (.iload_n 3, 1) := by decide +kernel
theorem dX3_planted_118 : decode cX3_planted 118 = .ok (.iadd, 1) := by decide +kernel
theorem dX3_planted_119 : decode cX3_planted 119 = .ok (.iconst (-1), 1) := by decide +kernel
theorem dX3_planted_120 : decode cX3_planted 120 = .ok (.iastore, 1) := by decide +kernel
theorem dX3_planted_121 : decode cX3_planted 121 = .ok (.aload_n 0, 1) := by decide +kernel
theorem dX3_planted_122 : decode cX3_planted 122 = .ok (.iload_n 3, 1) := by decide +kernel
theorem dX3_planted_123 : decode cX3_planted 123 = .ok (.iload 4, 2) := by decide +kernel
theorem dX3_planted_125 : decode cX3_planted 125 = .ok (.iload 5, 2) := by decide +kernel
theorem dX3_planted_127 : decode cX3_planted 127 = .ok (.invokevirtual 39, 3) := by decide +kernel
theorem dX3_planted_130 : decode cX3_planted 130 = .ok (.aload_n 0, 1) := by decide +kernel
theorem dX3_planted_131 : decode cX3_planted 131 = .ok (.dup, 1) := by decide +kernel
theorem dX3_planted_132 : decode cX3_planted 132 = .ok (.getfield 78, 3) := by decide +kernel
theorem dX3_planted_135 : decode cX3_planted 135 = .ok (.iconst 1, 1) := by decide +kernel
theorem dX3_planted_136 : decode cX3_planted 136 = .ok (.iadd, 1) := by decide +kernel
theorem dX3_planted_137 : decode cX3_planted 137 = .ok (.putfield 78, 3) := by decide +kernel
theorem dX3_planted_140 : decode cX3_planted 140 = .ok (.aload_n 0, 1) := by decide +kernel
theorem dX3_planted_141 : decode cX3_planted 141 = .ok (.iload_n 3, 1) := by decide +kernel
theorem dX3_planted_142 : decode cX3_planted 142 = .ok (.invokevirtual 81, 3) := by decide +kernel
theorem dX3_planted_145 : decode cX3_planted 145 = .ok (.istore 6, 2) := by decide +kernel
theorem dX3_planted_147 : decode cX3_planted 147 = .ok (.aload_n 0, 1) := by decide +kernel
theorem dX3_planted_148 : decode cX3_planted 148 = .ok (.iload_n 1, 1) := by decide +kernel
theorem dX3_planted_149 : decode cX3_planted 149 = .ok (.iload_n 3, 1) := by decide +kernel
theorem dX3_planted_150 : decode cX3_planted 150 = .ok (.invokevirtual 84, 3) := by decide +kernel
theorem dX3_planted_153 : decode cX3_planted 153 = .ok (.iload 6, 2) := by decide +kernel
theorem dX3_planted_155 : decode cX3_planted 155 = .ok (.ireturn, 1) := by decide +kernel
set_option maxRecDepth 20000 in
theorem ggX3_plant_X3_isRow : GoodIn wsX3_plant wsX3_isRow := goodIn_r _ [6] (by decide +kernel) (by decide +kernel)
set_option maxRecDepth 20000 in
theorem gX3_plant_X3_isRow : GoodIn wsX3_plant (va_wsS RX3 88 yX3_isRow wsX3_isRow) := goodIn_app (goodIn_of _ (by decide +kernel)) ggX3_plant_X3_isRow
set_option maxRecDepth 20000 in
theorem ggX3_plant_X3_no : GoodIn wsX3_plant wsX3_no := goodIn_r _ [10, 1, 55, 56, 57, 58, 59, 60] (by decide +kernel) (by decide +kernel)
set_option maxRecDepth 20000 in
theorem gX3_plant_X3_no : GoodIn wsX3_plant (wsV RX3 92 RX3 yX3_no wsX3_no) := goodIn_app (goodIn_of _ (by decide +kernel)) ggX3_plant_X3_no
set_option maxRecDepth 20000 in
theorem ggX3_plant_X3_isSize : GoodIn wsX3_plant wsX3_isSize := goodIn_r _ [13] (by decide +kernel) (by decide +kernel)
set_option maxRecDepth 20000 in
theorem gX3_plant_X3_isSize : GoodIn wsX3_plant (va_wsS RX3 95 yX3_isSize wsX3_isSize) := goodIn_app (goodIn_of _ (by decide +kernel)) ggX3_plant_X3_isSize
set_option maxRecDepth 20000 in
theorem ggX3_plant_X3_find : GoodIn wsX3_plant wsX3_find := goodIn_r _ [17, 18, 55, 56, 57, 58, 59, 60] (by decide +kernel) (by decide +kernel)
set_option maxRecDepth 20000 in
theorem gX3_plant_X3_find : GoodIn wsX3_plant (wsV RX3 98 RX3 yX3_find wsX3_find) := goodIn_app (goodIn_of _ (by decide +kernel)) ggX3_plant_X3_find
set_option maxRecDepth 20000 in
theorem ggX3_plant_X3_planted : GoodIn wsX3_plant wsX3_planted := goodIn_r _ [22, 18, 2, 23, 24, 25, 5, 26, 27, 28, 29, 30, 31, 32, 33, 34, 35, 36, 37, 38, 39, 40, 41, 42, 43, 44, 45, 46, 47, 48, 49, 50, 51, 52, 53, 54, 55, 56, 57, 58, 59, 60] (by decide +kernel) (by decide +kernel)
set_option maxRecDepth 20000 in
theorem gX3_plant_X3_planted : GoodIn wsX3_plant (wsV RX3 101 RX3 yX3_planted wsX3_planted) := goodIn_app (goodIn_of _ (by decide +kernel)) ggX3_plant_X3_planted
theorem dX3_plant_0 : decode cX3_plant 0 = .ok (.aload_n 0, 1) := by decide +kernel
theorem dX3_plant_1 : decode cX3_plant 1 = .ok (.iconst 0, 1) := by decide +kernel
theorem dX3_plant_2 : decode cX3_plant 2 = .ok (.putfield 16, 3) := by decide +kernel
theorem dX3_plant_5 : decode cX3_plant 5 = .ok (.iload_n 1, 1) := by decide +kernel
theorem dX3_plant_6 : decode cX3_plant 6 = .ok (.invokestatic 88, 3) := by decide +kernel
theorem dX3_plant_9 : decode cX3_plant 9 = .ok (.ifCond .ne 9, 3) := by decide +kernel
theorem dX3_plant_12 : decode cX3_plant 12 = .ok (.aload_n 0, 1) := by decide +kernel
theorem dX3_plant_13 : decode cX3_plant 13 = .ok (.iconst 1, 1) := by decide +kernel
theorem dX3_plant_14 : decode cX3_plant 14 = .ok (.invokevirtual 92, 3) := by decide +kernel
theorem dX3_plant_17 : decode cX3_plant 17 = .ok (.ireturn, 1) := by decide +kernel
theorem dX3_plant_18 : decode cX3_plant 18 = .ok (.iload_n 2, 1) := by decide +kernel
theorem dX3_plant_19 : decode cX3_plant 19 = .ok (.invokestatic 95, 3) := by decide +kernel
theorem dX3_plant_22 : decode cX3_plant 22 = .ok (.ifCond .ne 9, 3) := by decide +kernel
theorem dX3_plant_25 : decode cX3_plant 25 = .ok (.aload_n 0, 1) := by decide +kernel
theorem dX3_plant_26 : decode cX3_plant 26 = .ok (.iconst 2, 1) := by decide +kernel
theorem dX3_plant_27 : decode cX3_plant 27 = .ok (.invokevirtual 92, 3) := by decide +kernel
theorem dX3_plant_30 : decode cX3_plant 30 = .ok (.ireturn, 1) := by decide +kernel
theorem dX3_plant_31 : decode cX3_plant 31 = .ok (.aload_n 0, 1) := by decide +kernel
theorem dX3_plant_32 : decode cX3_plant 32 = .ok (.getfield 78, 3) := by decide +kernel
theorem dX3_plant_35 : decode cX3_plant 35 = .ok (.bipush 40, 2) := by decide +kernel
theorem dX3_plant_37 : decode cX3_plant 37 = .ok (.if_icmp .eq 13, 3) := by decide +kernel
theorem dX3_plant_40 : decode cX3_plant 40 = .ok (.aload_n 0, 1) := by decide +kernel
theorem dX3_plant_41 : decode cX3_plant 41 = .ok (.iload_n 1, 1) := by decide +kernel
theorem dX3_plant_42 : decode cX3_plant 42 = .ok (.iload_n 2, 1) := by decide +kernel
theorem dX3_plant_43 : decode cX3_plant 43 = .ok (.invokevirtual 98, 3) := by decide +kernel
theorem dX3_plant_46 : decode cX3_plant 46 = .ok (.iconst (-1), 1) := by decide +kernel
theorem dX3_plant_47 : decode cX3_plant 47 = .ok (.if_icmp .eq 9, 3) := by decide +kernel
theorem dX3_plant_50 : decode cX3_plant 50 = .ok (.aload_n 0, 1) := by decide +kernel
theorem dX3_plant_51 : decode cX3_plant 51 = .ok (.iconst 3, 1) := by decide +kernel
theorem dX3_plant_52 : decode cX3_plant 52 = .ok (.invokevirtual 92, 3) := by decide +kernel
theorem dX3_plant_55 : decode cX3_plant 55 = .ok (.ireturn, 1) := by decide +kernel
theorem dX3_plant_56 : decode cX3_plant 56 = .ok (.aload_n 0, 1) := by decide +kernel
theorem dX3_plant_57 : decode cX3_plant 57 = .ok (.iload_n 1, 1) := by decide +kernel
theorem dX3_plant_58 : decode cX3_plant 58 = .ok (.iload_n 2, 1) := by decide +kernel
theorem dX3_plant_59 : decode cX3_plant 59 = .ok (.invokevirtual 101, 3) := by decide +kernel
theorem dX3_plant_62 : decode cX3_plant 62 = .ok (.ireturn, 1) := by decide +kernel
set_option maxRecDepth 20000 in
theorem ggX3_bitten_X3_deep : GoodIn wsX3_bitten wsX3_deep := goodIn_r _ [6, 1, 31, 32, 33, 34, 35, 36] (by decide +kernel) (by decide +kernel)
set_option maxRecDepth 20000 in
theorem gX3_bitten_X3_deep : GoodIn wsX3_bitten (wsV RX3 81 RX3 yX3_deep wsX3_deep) := goodIn_app (goodIn_of _ (by decide +kernel)) ggX3_bitten_X3_deep
set_option maxRecDepth 20000 in
theorem ggX3_bitten_X3_raiseIn : GoodIn wsX3_bitten wsX3_raiseIn := goodIn_r _ [10, 1, 11, 12, 13, 5, 14, 15, 16, 17, 18, 19, 20, 21, 22, 23, 24, 25, 26, 27, 28, 29, 30, 31, 32, 33, 34, 35, 36] (by decide +kernel) (by decide +kernel)
set_option maxRecDepth 20000 in
theorem gX3_bitten_X3_raiseIn : GoodIn wsX3_bitten (wsV RX3 84 RX3 yX3_raiseIn wsX3_raiseIn) := goodIn_app (goodIn_of _ (by decide +kernel)) ggX3_bitten_X3_raiseIn
theorem dX3_bitten_0 : decode cX3_bitten 0 = .ok (.aload_n 0, 1) := by decide +kernel
theorem dX3_bitten_1 : decode cX3_bitten 1 = .ok (.iload_n 2, 1) := by decide +kernel
theorem dX3_bitten_2 : decode cX3_bitten 2 = .ok (.invokevirtual 81, 3) := by decide +kernel
theorem dX3_bitten_5 : decode cX3_bitten 5 = .ok (.istore_n 3, 1) := by decide +kernel
theorem dX3_bitten_6 : decode cX3_bitten 6 = .ok (.aload_n 0, 1) := by decide +kernel
theorem dX3_bitten_7 : decode cX3_bitten 7 = .ok (.getfield 9, 3) := by decide +kernel
theorem dX3_bitten_10 : decode cX3_bitten 10 = .ok (.sipush 160, 3) := by decide +kernel
theorem dX3_bitten_13 : decode cX3_bitten 13 = .ok (.iload_n 2, 1) := by decide +kernel
theorem dX3_bitten_14 : decode cX3_bitten 14 = .ok (.iadd, 1) := by decide +kernel
theorem dX3_bitten_15 : decode cX3_bitten 15 = .ok (.dup2, 1) := by decide +kernel
theorem dX3_bitten_16 : decode cX3_bitten 16 = .ok (.iaload, 1) := by decide +kernel
theorem dX3_bitten_17 : decode cX3_bitten 17 = .ok (.iconst 1, 1) := by decide +kernel
theorem dX3_bitten_18 : decode cX3_bitten 18 = .ok (.iadd, 1) := by decide +kernel
theorem dX3_bitten_19 : decode cX3_bitten 19 = .ok (.iastore, 1) := by decide +kernel
theorem dX3_bitten_20 : decode cX3_bitten 20 = .ok (.aload_n 0, 1) := by decide +kernel
theorem dX3_bitten_21 : decode cX3_bitten 21 = .ok (.iload_n 1, 1) := by decide +kernel
theorem dX3_bitten_22 : decode cX3_bitten 22 = .ok (.iload_n 2, 1) := by decide +kernel
theorem dX3_bitten_23 : decode cX3_bitten 23 = .ok (.invokevirtual 84, 3) := by decide +kernel
theorem dX3_bitten_26 : decode cX3_bitten 26 = .ok (.iload_n 3, 1) := by decide +kernel
theorem dX3_bitten_27 : decode cX3_bitten 27 = .ok (.ireturn, 1) := by decide +kernel
set_option maxRecDepth 20000 in
theorem ggX3_eat_X3_isRow : GoodIn wsX3_eat wsX3_isRow := goodIn_r _ [5] (by decide +kernel) (by decide +kernel)
set_option maxRecDepth 20000 in
theorem gX3_eat_X3_isRow : GoodIn wsX3_eat (va_wsS RX3 88 yX3_isRow wsX3_isRow) := goodIn_app (goodIn_of _ (by decide +kernel)) ggX3_eat_X3_isRow
set_option maxRecDepth 20000 in
theorem ggX3_eat_X3_no : GoodIn wsX3_eat wsX3_no := goodIn_r _ [9, 1, 47, 48, 49, 50, 51, 52] (by decide +kernel) (by decide +kernel)
set_option maxRecDepth 20000 in
theorem gX3_eat_X3_no : GoodIn wsX3_eat (wsV RX3 92 RX3 yX3_no wsX3_no) := goodIn_app (goodIn_of _ (by decide +kernel)) ggX3_eat_X3_no
set_option maxRecDepth 20000 in
theorem ggX3_eat_X3_find : GoodIn wsX3_eat wsX3_find := goodIn_r _ [13, 14, 47, 48, 49, 50, 51, 52] (by decide +kernel) (by decide +kernel)
set_option maxRecDepth 20000 in
theorem gX3_eat_X3_find : GoodIn wsX3_eat (wsV RX3 98 RX3 yX3_find wsX3_find) := goodIn_app (goodIn_of _ (by decide +kernel)) ggX3_eat_X3_find
set_option maxRecDepth 20000 in
theorem ggX3_eat_X3_bitten : GoodIn wsX3_eat wsX3_bitten := goodIn_r _ [18, 14, 19, 20, 21, 4, 22, 23, 24, 25, 26, 27, 28, 29, 30, 31, 32, 33, 34, 35, 36, 37, 38, 39, 40, 41, 42, 43, 44, 45, 46, 47, 48, 49, 50, 51, 52] (by decide +kernel) (by decide +kernel)
set_option maxRecDepth 20000 in
theorem gX3_eat_X3_bitten : GoodIn wsX3_eat (wsV RX3 104 RX3 yX3_bitten wsX3_bitten) := goodIn_app (goodIn_of _ (by decide +kernel)) ggX3_eat_X3_bitten
theorem dX3_eat_0 : decode cX3_eat 0 = .ok (.aload_n 0, 1) := by decide +kernel
theorem dX3_eat_1 : decode cX3_eat 1 = .ok (.iconst 0, 1) := by decide +kernel
theorem dX3_eat_2 : decode cX3_eat 2 = .ok (.putfield 16, 3) := by decide +kernel
theorem dX3_eat_5 : decode cX3_eat 5 = .ok (.iload_n 1, 1) := by decide +kernel
theorem dX3_eat_6 : decode cX3_eat 6 = .ok (.invokestatic 88, 3) := by decide +kernel
theorem dX3_eat_9 : decode cX3_eat 9 = .ok (.ifCond .ne 9, 3) := by decide +kernel
theorem dX3_eat_12 : decode cX3_eat 12 = .ok (.aload_n 0, 1) := by decide +kernel
theorem dX3_eat_13 : decode cX3_eat 13 = .ok (.iconst 1, 1) := by decide +kernel
theorem dX3_eat_14 : decode cX3_eat 14 = .ok (.invokevirtual 92, 3) := by decide +kernel
theorem dX3_eat_17 : decode cX3_eat 17 = .ok (.ireturn, 1) := by decide +kernel
theorem dX3_eat_18 : decode cX3_eat 18 = .ok (.aload_n 0, 1) := by decide +kernel
theorem dX3_eat_19 : decode cX3_eat 19 = .ok (.iload_n 1, 1) := by decide +kernel
theorem dX3_eat_20 : decode cX3_eat 20 = .ok (.iload_n 2, 1) := by decide +kernel
theorem dX3_eat_21 : decode cX3_eat 21 = .ok (.invokevirtual 98, 3) := by decide +kernel
theorem dX3_eat_24 : decode cX3_eat 24 = .ok (.istore_n 3, 1) := by decide +kernel
theorem dX3_eat_25 : decode cX3_eat 25 = .ok (.iload_n 3, 1) := by decide +kernel
theorem dX3_eat_26 : decode cX3_eat 26 = .ok (.iconst (-1), 1) := by decide +kernel
theorem dX3_eat_27 : decode cX3_eat 27 = .ok (.if_icmp .ne 11, 3) := by decide +kernel
theorem dX3_eat_30 : decode cX3_eat 30 = .ok (.aload_n 0, 1) := by decide +kernel
theorem dX3_eat_31 : decode cX3_eat 31 = .ok (.iconst 2, 1) := by decide +kernel
theorem dX3_eat_32 : decode cX3_eat 32 = .ok (.invokevirtual 92, 3) := by decide +kernel
theorem dX3_eat_35 : decode cX3_eat 35 = .ok (.goto 9, 3) := by decide +kernel
theorem dX3_eat_38 : decode cX3_eat 38 = .ok (.aload_n 0, 1) := by decide +kernel
theorem dX3_eat_39 : decode cX3_eat 39 = .ok (.iload_n 1, 1) := by decide +kernel
theorem dX3_eat_40 : decode cX3_eat 40 = .ok (.iload_n 3, 1) := by decide +kernel
theorem dX3_eat_41 : decode cX3_eat 41 = .ok (.invokevirtual 104, 3) := by decide +kernel
theorem dX3_eat_44 : decode cX3_eat 44 = .ok (.ireturn, 1) := by decide +kernel
theorem dX3_lowered_0 : decode cX3_lowered 0 = .ok (.iload_n 1, 1) := by decide +kernel
theorem dX3_lowered_1 : decode cX3_lowered 1 = .ok (.iconst (-1), 1) := by decide +kernel
theorem dX3_lowered_2 : decode cX3_lowered 2 = .ok (.if_icmp .eq 13, 3) := by decide +kernel
theorem dX3_lowered_5 : decode cX3_lowered 5 = .ok (.aload_n 0, 1) := by decide +kernel
theorem dX3_lowered_6 : decode cX3_lowered 6 = .ok (.getfield 9, 3) := by decide +kernel
theorem dX3_lowered_9 : decode cX3_lowered 9 = .ok (.bipush 120, 2) := by decide +kernel
theorem dX3_lowered_11 : decode cX3_lowered 11 = .ok (.iload_n 1, 1) := by decide +kernel
theorem dX3_lowered_12 : decode cX3_lowered 12 = .ok (.iadd, 1) := by decide +kernel
theorem dX3_lowered_13 : decode cX3_lowered 13 = .ok (.iconst (-1), 1) := by decide +kernel
theorem dX3_lowered_14 : decode cX3_lowered 14 = .ok (.iastore, 1) := by decide +kernel
theorem dX3_lowered_15 : decode cX3_lowered 15 = .ok (.iload_n 1, 1) := by decide +kernel
theorem dX3_lowered_16 : decode cX3_lowered 16 = .ok (.ireturn, 1) := by decide +kernel
set_option maxRecDepth 20000 in
theorem ggX3_together_X3_end : GoodIn wsX3_together wsX3_end := goodIn_r _ [5, 6, 27, 28, 29, 30, 31, 32] (by decide +kernel) (by decide +kernel)
set_option maxRecDepth 20000 in
theorem gX3_together_X3_end : GoodIn wsX3_together (wsV RX3 107 RX3 yX3_end wsX3_end) := goodIn_app (goodIn_of _ (by decide +kernel)) ggX3_together_X3_end
set_option maxRecDepth 20000 in
theorem ggX3_together_X3_raise : GoodIn wsX3_together wsX3_raise := goodIn_r _ [10, 6, 11, 12, 13, 4, 14, 15, 16, 17, 18, 19, 20, 21, 22, 23, 24, 25, 26, 27, 28, 29, 30, 31, 32] (by decide +kernel) (by decide +kernel)
set_option maxRecDepth 20000 in
theorem gX3_together_X3_raise : GoodIn wsX3_together (wsV RX3 47 RX3 yX3_raise wsX3_raise) := goodIn_app (goodIn_of _ (by decide +kernel)) ggX3_together_X3_raise
set_option maxRecDepth 20000 in
theorem ggX3_together_X3_hang : GoodIn wsX3_together wsX3_hang := goodIn_r _ [26, 6, 27, 28, 29, 30, 31, 32] (by decide +kernel) (by decide +kernel)
set_option maxRecDepth 20000 in
theorem gX3_together_X3_hang : GoodIn wsX3_together (wsV RX3 39 RX3 yX3_hang wsX3_hang) := goodIn_app (goodIn_of _ (by decide +kernel)) ggX3_together_X3_hang
theorem dX3_together_0 : decode cX3_together 0 = .ok (.iload_n 1, 1) := by decide +kernel
theorem dX3_together_1 : decode cX3_together 1 = .ok (.iconst (-1), 1) := by decide +kernel
theorem dX3_together_2 : decode cX3_together 2 = .ok (.if_icmp .ne 5, 3) := by decide +kernel
theorem dX3_together_5 : decode cX3_together 5 = .ok (.iload_n 2, 1) := by decide +kernel
theorem dX3_together_6 : decode cX3_together 6 = .ok (.ireturn, 1) := by decide +kernel
theorem dX3_together_7 : decode cX3_together 7 = .ok (.aload_n 0, 1) := by decide +kernel
theorem dX3_together_8 : decode cX3_together 8 = .ok (.iload_n 1, 1) := by decide +kernel
theorem dX3_together_9 : decode cX3_together 9 = .ok (.bipush 80, 2) := by decide +kernel
theorem dX3_together_11 : decode cX3_together 11 = .ok (.invokevirtual 107, 3) := by decide +kernel
theorem dX3_together_14 : decode cX3_together 14 = .ok (.istore_n 3, 1) := by decide +kernel
theorem dX3_together_15 : decode cX3_together 15 = .ok (.aload_n 0, 1) := by decide +kernel
theorem dX3_together_16 : decode cX3_together 16 = .ok (.iload_n 3, 1) := by decide +kernel
theorem dX3_together_17 : decode cX3_together 17 = .ok (.invokevirtual 47, 3) := by decide +kernel
theorem dX3_together_20 : decode cX3_together 20 = .ok (.aload_n 0, 1) := by decide +kernel
theorem dX3_together_21 : decode cX3_together 21 = .ok (.iload_n 2, 1) := by decide +kernel
theorem dX3_together_22 : decode cX3_together 22 = .ok (.iload_n 3, 1) := by decide +kernel
theorem dX3_together_23 : decode cX3_together 23 = .ok (.bipush 80, 2) := by decide +kernel
theorem dX3_together_25 : decode cX3_together 25 = .ok (.invokevirtual 39, 3) := by decide +kernel
theorem dX3_together_28 : decode cX3_together 28 = .ok (.iload_n 3, 1) := by decide +kernel
theorem dX3_together_29 : decode cX3_together 29 = .ok (.ireturn, 1) := by decide +kernel
set_option maxRecDepth 20000 in
theorem ggX3_picked_X3_raiseIn : GoodIn wsX3_picked wsX3_raiseIn := goodIn_r _ [7, 1, 8, 9, 10, 6, 11, 12, 13, 14, 15, 16, 17, 18, 19, 20, 21, 22, 23, 24, 25, 26, 27, 40, 41, 42, 43, 44, 45] (by decide +kernel) (by decide +kernel)
set_option maxRecDepth 20000 in
theorem gX3_picked_X3_raiseIn : GoodIn wsX3_picked (wsV RX3 84 RX3 yX3_raiseIn wsX3_raiseIn) := goodIn_app (goodIn_of _ (by decide +kernel)) ggX3_picked_X3_raiseIn
set_option maxRecDepth 20000 in
theorem ggX3_picked_X3_lowered : GoodIn wsX3_picked wsX3_lowered := goodIn_r _ [31, 1, 40, 41, 42, 43, 44, 45] (by decide +kernel) (by decide +kernel)
set_option maxRecDepth 20000 in
theorem gX3_picked_X3_lowered : GoodIn wsX3_picked (wsV RX3 110 RX3 yX3_lowered wsX3_lowered) := goodIn_app (goodIn_of _ (by decide +kernel)) ggX3_picked_X3_lowered
set_option maxRecDepth 20000 in
theorem ggX3_picked_X3_together : GoodIn wsX3_picked wsX3_together := goodIn_r _ [35, 36, 37, 38, 6, 39, 1, 8, 9, 10, 11, 12, 13, 14, 15, 16, 17, 18, 19, 20, 21, 22, 23, 24, 25, 26, 27, 40, 41, 42, 43, 44, 45] (by decide +kernel) (by decide +kernel)
set_option maxRecDepth 20000 in
theorem gX3_picked_X3_together : GoodIn wsX3_picked (wsV RX3 113 RX3 yX3_together wsX3_together) := goodIn_app (goodIn_of _ (by decide +kernel)) ggX3_picked_X3_together
theorem dX3_picked_0 : decode cX3_picked 0 = .ok (.aload_n 0, 1) := by decide +kernel
theorem dX3_picked_1 : decode cX3_picked 1 = .ok (.iload_n 1, 1) := by decide +kernel
theorem dX3_picked_2 : decode cX3_picked 2 = .ok (.iload_n 2, 1) := by decide +kernel
theorem dX3_picked_3 : decode cX3_picked 3 = .ok (.invokevirtual 84, 3) := by decide +kernel
theorem dX3_picked_6 : decode cX3_picked 6 = .ok (.aload_n 0, 1) := by decide +kernel
theorem dX3_picked_7 : decode cX3_picked 7 = .ok (.aload_n 0, 1) := by decide +kernel
theorem dX3_picked_8 : decode cX3_picked 8 = .ok (.getfield 9, 3) := by decide +kernel
theorem dX3_picked_11 : decode cX3_picked 11 = .ok (.bipush 40, 2) := by decide +kernel
theorem dX3_picked_13 : decode cX3_picked 13 = .ok (.iload_n 2, 1) := by decide +kernel
theorem dX3_picked_14 : decode cX3_picked 14 = .ok (.iadd, 1) := by decide +kernel
theorem dX3_picked_15 : decode cX3_picked 15 = .ok (.iaload, 1) := by decide +kernel
theorem dX3_picked_16 : decode cX3_picked 16 = .ok (.invokevirtual 110, 3) := by decide +kernel
theorem dX3_picked_19 : decode cX3_picked 19 = .ok (.istore_n 3, 1) := by decide +kernel
theorem dX3_picked_20 : decode cX3_picked 20 = .ok (.aload_n 0, 1) := by decide +kernel
theorem dX3_picked_21 : decode cX3_picked 21 = .ok (.aload_n 0, 1) := by decide +kernel
theorem dX3_picked_22 : decode cX3_picked 22 = .ok (.getfield 9, 3) := by decide +kernel
theorem dX3_picked_25 : decode cX3_picked 25 = .ok (.bipush 80, 2) := by decide +kernel
theorem dX3_picked_27 : decode cX3_picked 27 = .ok (.iload_n 2, 1) := by decide +kernel
theorem dX3_picked_28 : decode cX3_picked 28 = .ok (.iadd, 1) := by decide +kernel
theorem dX3_picked_29 : decode cX3_picked 29 = .ok (.iaload, 1) := by decide +kernel
theorem dX3_picked_30 : decode cX3_picked 30 = .ok (.invokevirtual 110, 3) := by decide +kernel
theorem dX3_picked_33 : decode cX3_picked 33 = .ok (.istore 4, 2) := by decide +kernel
theorem dX3_picked_35 : decode cX3_picked 35 = .ok (.aload_n 0, 1) := by decide +kernel
theorem dX3_picked_36 : decode cX3_picked 36 = .ok (.getfield 9, 3) := by decide +kernel
theorem dX3_picked_39 : decode cX3_picked 39 = .ok (.sipush 160, 3) := by decide +kernel
theorem dX3_picked_42 : decode cX3_picked 42 = .ok (.iload_n 2, 1) := by decide +kernel
theorem dX3_picked_43 : decode cX3_picked 43 = .ok (.iadd, 1) := by decide +kernel
theorem dX3_picked_44 : decode cX3_picked 44 = .ok (.iaload, 1) := by decide +kernel
theorem dX3_picked_45 : decode cX3_picked 45 = .ok (.istore 5, 2) := by decide +kernel
theorem dX3_picked_47 : decode cX3_picked 47 = .ok (.aload_n 0, 1) := by decide +kernel
theorem dX3_picked_48 : decode cX3_picked 48 = .ok (.getfield 9, 3) := by decide +kernel
theorem dX3_picked_51 : decode cX3_picked 51 = .ok (.iconst 0, 1) := by decide +kernel
theorem dX3_picked_52 : decode cX3_picked 52 = .ok (.iload_n 2, 1) := by decide +kernel
theorem dX3_picked_53 : decode cX3_picked 53 = .ok (.iadd, 1) := by decide +kernel
theorem dX3_picked_54 : decode cX3_picked 54 = .ok (.iconst (-1), 1) := by decide +kernel
theorem dX3_picked_55 : decode cX3_picked 55 = .ok (.iastore, 1) := by decide +kernel
theorem dX3_picked_56 : decode cX3_picked 56 = .ok (.aload_n 0, 1) := by decide +kernel
theorem dX3_picked_57 : decode cX3_picked 57 = .ok (.dup, 1) := by decide +kernel
theorem dX3_picked_58 : decode cX3_picked 58 = .ok (.getfield 78, 3) := by decide +kernel
theorem dX3_picked_61 : decode cX3_picked 61 = .ok (.iconst 1, 1) := by decide +kernel
theorem dX3_picked_62 : decode cX3_picked 62 = .ok (.isub, 1) := by decide +kernel
theorem dX3_picked_63 : decode cX3_picked 63 = .ok (.putfield 78, 3) := by decide +kernel
theorem dX3_picked_66 : decode cX3_picked 66 = .ok (.aload_n 0, 1) := by decide +kernel
theorem dX3_picked_67 : decode cX3_picked 67 = .ok (.getfield 9, 3) := by decide +kernel
theorem dX3_picked_70 : decode cX3_picked 70 = .ok (.sipush 200, 3) := by decide +kernel
theorem dX3_picked_73 : decode cX3_picked 73 = .ok (.iload_n 1, 1) := by decide +kernel
theorem dX3_picked_74 : decode cX3_picked 74 = .ok (.iadd, 1) := by decide +kernel
theorem dX3_picked_75 : decode cX3_picked 75 = .ok (.aload_n 0, 1) := by decide +kernel
theorem dX3_picked_76 : decode cX3_picked 76 = .ok (.iload_n 3, 1) := by decide +kernel
theorem dX3_picked_77 : decode cX3_picked 77 = .ok (.iload 4, 2) := by decide +kernel
theorem dX3_picked_79 : decode cX3_picked 79 = .ok (.invokevirtual 113, 3) := by decide +kernel
theorem dX3_picked_82 : decode cX3_picked 82 = .ok (.iastore, 1) := by decide +kernel
theorem dX3_picked_83 : decode cX3_picked 83 = .ok (.iload 5, 2) := by decide +kernel
theorem dX3_picked_85 : decode cX3_picked 85 = .ok (.ireturn, 1) := by decide +kernel
set_option maxRecDepth 20000 in
theorem ggX3_pick_X3_isRow : GoodIn wsX3_pick wsX3_isRow := goodIn_r _ [5] (by decide +kernel) (by decide +kernel)
set_option maxRecDepth 20000 in
theorem gX3_pick_X3_isRow : GoodIn wsX3_pick (va_wsS RX3 88 yX3_isRow wsX3_isRow) := goodIn_app (goodIn_of _ (by decide +kernel)) ggX3_pick_X3_isRow
set_option maxRecDepth 20000 in
theorem ggX3_pick_X3_no : GoodIn wsX3_pick wsX3_no := goodIn_r _ [9, 1, 56, 57, 58, 59, 60, 61] (by decide +kernel) (by decide +kernel)
set_option maxRecDepth 20000 in
theorem gX3_pick_X3_no : GoodIn wsX3_pick (wsV RX3 92 RX3 yX3_no wsX3_no) := goodIn_app (goodIn_of _ (by decide +kernel)) ggX3_pick_X3_no
set_option maxRecDepth 20000 in
theorem ggX3_pick_X3_find : GoodIn wsX3_pick wsX3_find := goodIn_r _ [13, 14, 56, 57, 58, 59, 60, 61] (by decide +kernel) (by decide +kernel)
set_option maxRecDepth 20000 in
theorem gX3_pick_X3_find : GoodIn wsX3_pick (wsV RX3 98 RX3 yX3_find wsX3_find) := goodIn_app (goodIn_of _ (by decide +kernel)) ggX3_pick_X3_find
set_option maxRecDepth 20000 in
theorem ggX3_pick_X3_picked : GoodIn wsX3_pick wsX3_picked := goodIn_r _ [18, 14, 19, 20, 21, 22, 4, 23, 24, 25, 26, 27, 28, 29, 30, 31, 32, 33, 34, 35, 36, 37, 38, 39, 40, 41, 42, 43, 44, 45, 46, 47, 48, 49, 50, 51, 52, 53, 54, 55, 56, 57, 58, 59, 60, 61] (by decide +kernel) (by decide +kernel)
set_option maxRecDepth 20000 in
theorem gX3_pick_X3_picked : GoodIn wsX3_pick (wsV RX3 116 RX3 yX3_picked wsX3_picked) := goodIn_app (goodIn_of _ (by decide +kernel)) ggX3_pick_X3_picked
theorem dX3_pick_0 : decode cX3_pick 0 = .ok (.aload_n 0, 1) := by decide +kernel
theorem dX3_pick_1 : decode cX3_pick 1 = .ok (.iconst 0, 1) := by decide +kernel
theorem dX3_pick_2 : decode cX3_pick 2 = .ok (.putfield 16, 3) := by decide +kernel
theorem dX3_pick_5 : decode cX3_pick 5 = .ok (.iload_n 1, 1) := by decide +kernel
theorem dX3_pick_6 : decode cX3_pick 6 = .ok (.invokestatic 88, 3) := by decide +kernel
theorem dX3_pick_9 : decode cX3_pick 9 = .ok (.ifCond .ne 9, 3) := by decide +kernel
theorem dX3_pick_12 : decode cX3_pick 12 = .ok (.aload_n 0, 1) := by decide +kernel
theorem dX3_pick_13 : decode cX3_pick 13 = .ok (.iconst 1, 1) := by decide +kernel
theorem dX3_pick_14 : decode cX3_pick 14 = .ok (.invokevirtual 92, 3) := by decide +kernel
theorem dX3_pick_17 : decode cX3_pick 17 = .ok (.ireturn, 1) := by decide +kernel
theorem dX3_pick_18 : decode cX3_pick 18 = .ok (.aload_n 0, 1) := by decide +kernel
theorem dX3_pick_19 : decode cX3_pick 19 = .ok (.iload_n 1, 1) := by decide +kernel
theorem dX3_pick_20 : decode cX3_pick 20 = .ok (.iload_n 2, 1) := by decide +kernel
theorem dX3_pick_21 : decode cX3_pick 21 = .ok (.invokevirtual 98, 3) := by decide +kernel
theorem dX3_pick_24 : decode cX3_pick 24 = .ok (.istore_n 3, 1) := by decide +kernel
theorem dX3_pick_25 : decode cX3_pick 25 = .ok (.iload_n 3, 1) := by decide +kernel
theorem dX3_pick_26 : decode cX3_pick 26 = .ok (.iconst (-1), 1) := by decide +kernel
theorem dX3_pick_27 : decode cX3_pick 27 = .ok (.if_icmp .ne 11, 3) := by decide +kernel
theorem dX3_pick_30 : decode cX3_pick 30 = .ok (.aload_n 0, 1) := by decide +kernel
theorem dX3_pick_31 : decode cX3_pick 31 = .ok (.iconst 2, 1) := by decide +kernel
theorem dX3_pick_32 : decode cX3_pick 32 = .ok (.invokevirtual 92, 3) := by decide +kernel
theorem dX3_pick_35 : decode cX3_pick 35 = .ok (.goto 9, 3) := by decide +kernel
theorem dX3_pick_38 : decode cX3_pick 38 = .ok (.aload_n 0, 1) := by decide +kernel
theorem dX3_pick_39 : decode cX3_pick 39 = .ok (.iload_n 1, 1) := by decide +kernel
theorem dX3_pick_40 : decode cX3_pick 40 = .ok (.iload_n 3, 1) := by decide +kernel
theorem dX3_pick_41 : decode cX3_pick 41 = .ok (.invokevirtual 116, 3) := by decide +kernel
theorem dX3_pick_44 : decode cX3_pick 44 = .ok (.ireturn, 1) := by decide +kernel
set_option maxRecDepth 20000 in
theorem ggX3_parted_X3_under : GoodIn wsX3_parted wsX3_under := goodIn_r _ [6, 1, 7, 8, 9, 5, 10, 2, 3, 4, 43, 44, 45, 46, 47, 48] (by decide +kernel) (by decide +kernel)
set_option maxRecDepth 20000 in
theorem gX3_parted_X3_under : GoodIn wsX3_parted (wsV RX3 68 RX3 yX3_under wsX3_under) := goodIn_app (goodIn_of _ (by decide +kernel)) ggX3_parted_X3_under
set_option maxRecDepth 20000 in
theorem ggX3_parted_X3_count : GoodIn wsX3_parted wsX3_count := goodIn_r _ [10, 1, 7, 8, 9, 5, 43, 44, 45, 46, 47, 48] (by decide +kernel) (by decide +kernel)
set_option maxRecDepth 20000 in
theorem gX3_parted_X3_count : GoodIn wsX3_parted (wsV RX3 50 RX3 yX3_count wsX3_count) := goodIn_app (goodIn_of _ (by decide +kernel)) ggX3_parted_X3_count
set_option maxRecDepth 20000 in
theorem ggX3_parted_X3_nth : GoodIn wsX3_parted wsX3_nth := goodIn_r _ [14, 1, 7, 8, 9, 5, 10, 11, 12, 13, 43, 44, 45, 46, 47, 48] (by decide +kernel) (by decide +kernel)
set_option maxRecDepth 20000 in
theorem gX3_parted_X3_nth : GoodIn wsX3_parted (wsV RX3 71 RX3 yX3_nth wsX3_nth) := goodIn_app (goodIn_of _ (by decide +kernel)) ggX3_parted_X3_nth
set_option maxRecDepth 20000 in
theorem ggX3_parted_X3_raiseIn : GoodIn wsX3_parted wsX3_raiseIn := goodIn_r _ [18, 1, 19, 20, 21, 5, 22, 23, 24, 25, 26, 27, 28, 29, 30, 31, 32, 33, 34, 35, 36, 37, 38, 43, 44, 45, 46, 47, 48] (by decide +kernel) (by decide +kernel)
set_option maxRecDepth 20000 in
theorem gX3_parted_X3_raiseIn : GoodIn wsX3_parted (wsV RX3 84 RX3 yX3_raiseIn wsX3_raiseIn) := goodIn_app (goodIn_of _ (by decide +kernel)) ggX3_parted_X3_raiseIn
set_option maxRecDepth 20000 in
theorem ggX3_parted_X3_lowered : GoodIn wsX3_parted wsX3_lowered := goodIn_r _ [42, 1, 43, 44, 45, 46, 47, 48] (by decide +kernel) (by decide +kernel)
set_option maxRecDepth 20000 in
theorem gX3_parted_X3_lowered : GoodIn wsX3_parted (wsV RX3 110 RX3 yX3_lowered wsX3_lowered) := goodIn_app (goodIn_of _ (by decide +kernel)) ggX3_parted_X3_lowered
theorem dX3_parted_0 : decode cX3_parted 0 = .ok (.aload_n 0, 1) := by decide +kernel
theorem dX3_parted_1 : decode cX3_parted 1 = .ok (.aload_n 0, 1) := by decide +kernel
theorem dX3_parted_2 : decode cX3_parted 2 = .ok (.getfield 9, 3) := by decide +kernel
theorem dX3_parted_5 : decode cX3_parted 5 = .ok (.sipush 200, 3) := by decide +kernel
theorem dX3_parted_8 : decode cX3_parted 8 = .ok (.iload_n 1, 1) := by decide +kernel
theorem dX3_parted_9 : decode cX3_parted 9 = .ok (.iadd, 1) := by decide +kernel
theorem dX3_parted_10 : decode cX3_parted 10 = .ok (.iaload, 1) := by decide +kernel
theorem dX3_parted_11 : decode cX3_parted 11 = .ok (.iload_n 2, 1) := by decide +kernel
theorem dX3_parted_12 : decode cX3_parted 12 = .ok (.invokevirtual 68, 3) := by decide +kernel
theorem dX3_parted_15 : decode cX3_parted 15 = .ok (.istore 4, 2) := by decide +kernel
theorem dX3_parted_17 : decode cX3_parted 17 = .ok (.iload 4, 2) := by decide +kernel
theorem dX3_parted_19 : decode cX3_parted 19 = .ok (.ifCond .ne 49, 3) := by decide +kernel
theorem dX3_parted_22 : decode cX3_parted 22 = .ok (.aload_n 0, 1) := by decide +kernel
theorem dX3_parted_23 : decode cX3_parted 23 = .ok (.getfield 9, 3) := by decide +kernel
theorem dX3_parted_26 : decode cX3_parted 26 = .ok (.sipush 200, 3) := by decide +kernel
theorem dX3_parted_29 : decode cX3_parted 29 = .ok (.iload_n 3, 1) := by decide +kernel
theorem dX3_parted_30 : decode cX3_parted 30 = .ok (.iadd, 1) := by decide +kernel
theorem dX3_parted_31 : decode cX3_parted 31 = .ok (.aload_n 0, 1) := by decide +kernel
theorem dX3_parted_32 : decode cX3_parted 32 = .ok (.getfield 9, 3) := by decide +kernel
theorem dX3_parted_35 : decode cX3_parted 35 = .ok (.sipush 200, 3) := by decide +kernel
theorem dX3_parted_38 : decode cX3_parted 38 = .ok (.iload_n 1, 1) := by decide +kernel
theorem dX3_parted_39 : decode cX3_parted 39 = .ok (.iadd, 1) := by decide +kernel
theorem dX3_parted_40 : decode cX3_parted 40 = .ok (.iaload, 1) := by decide +kernel
theorem dX3_parted_41 : decode cX3_parted 41 = .ok (.iastore, 1) := by decide +kernel
theorem dX3_parted_42 : decode cX3_parted 42 = .ok (.aload_n 0, 1) := by decide +kernel
theorem dX3_parted_43 : decode cX3_parted 43 = .ok (.getfield 9, 3) := by decide +kernel
theorem dX3_parted_46 : decode cX3_parted 46 = .ok (.sipush 200, 3) := by decide +kernel
theorem dX3_parted_49 : decode cX3_parted 49 = .ok (.iload_n 1, 1) := by decide +kernel
theorem dX3_parted_50 : decode cX3_parted 50 = .ok (.iadd, 1) := by decide +kernel
theorem dX3_parted_51 : decode cX3_parted 51 = .ok (.iconst (-1), 1) := by decide +kernel
theorem dX3_parted_52 : decode cX3_parted 52 = .ok (.iastore, 1) := by decide +kernel
theorem dX3_parted_53 : decode cX3_parted 53 = .ok (.aload_n 0, 1) := by decide +kernel
theorem dX3_parted_54 : decode cX3_parted 54 = .ok (.aload_n 0, 1) := by decide +kernel
theorem dX3_parted_55 : decode cX3_parted 55 = .ok (.getfield 9, 3) := by decide +kernel
theorem dX3_parted_58 : decode cX3_parted 58 = .ok (.sipush 200, 3) := by decide +kernel
theorem dX3_parted_61 : decode cX3_parted 61 = .ok (.iload_n 3, 1) := by decide +kernel
theorem dX3_parted_62 : decode cX3_parted 62 = .ok (.iadd, 1) := by decide +kernel
theorem dX3_parted_63 : decode cX3_parted 63 = .ok (.iaload, 1) := by decide +kernel
theorem dX3_parted_64 : decode cX3_parted 64 = .ok (.invokevirtual 50, 3) := by decide +kernel
theorem dX3_parted_67 : decode cX3_parted 67 = .ok (.ireturn, 1) := by decide +kernel
theorem dX3_parted_68 : decode cX3_parted 68 = .ok (.aload_n 0, 1) := by decide +kernel
theorem dX3_parted_69 : decode cX3_parted 69 = .ok (.aload_n 0, 1) := by decide +kernel
theorem dX3_parted_70 : decode cX3_parted 70 = .ok (.getfield 9, 3) := by decide +kernel
theorem dX3_parted_73 : decode cX3_parted 73 = .ok (.sipush 200, 3) := by decide +kernel
theorem dX3_parted_76 : decode cX3_parted 76 = .ok (.iload_n 1, 1) := by decide +kernel
theorem dX3_parted_77 : decode cX3_parted 77 = .ok (.iadd, 1) := by decide +kernel
theorem dX3_parted_78 : decode cX3_parted 78 = .ok (.iaload, 1) := by decide +kernel
theorem dX3_parted_79 : decode cX3_parted 79 = .ok (.iload 4, 2) := by decide +kernel
theorem dX3_parted_81 : decode cX3_parted 81 = .ok (.iconst 1, 1) := by decide +kernel
theorem dX3_parted_82 : decode cX3_parted 82 = .ok (.isub, 1) := by decide +kernel
theorem dX3_parted_83 : decode cX3_parted 83 = .ok (.invokevirtual 71, 3) := by decide +kernel
theorem dX3_parted_86 : decode cX3_parted 86 = .ok (.istore 5, 2) := by decide +kernel
theorem dX3_parted_88 : decode cX3_parted 88 = .ok (.aload_n 0, 1) := by decide +kernel
theorem dX3_parted_89 : decode cX3_parted 89 = .ok (.iload_n 1, 1) := by decide +kernel
theorem dX3_parted_90 : decode cX3_parted 90 = .ok (.iload 5, 2) := by decide +kernel
theorem dX3_parted_92 : decode cX3_parted 92 = .ok (.invokevirtual 84, 3) := by decide +kernel
theorem dX3_parted_95 : decode cX3_parted 95 = .ok (.aload_n 0, 1) := by decide +kernel
theorem dX3_parted_96 : decode cX3_parted 96 = .ok (.getfield 9, 3) := by decide +kernel
theorem dX3_parted_99 : decode cX3_parted 99 = .ok (.sipush 200, 3) := by decide +kernel
theorem dX3_parted_102 : decode cX3_parted 102 = .ok (.iload_n 3, 1) := by decide +kernel
theorem dX3_parted_103 : decode cX3_parted 103 = .ok (.iadd, 1) := by decide +kernel
theorem dX3_parted_104 : decode cX3_parted 104 = .ok (.aload_n 0, 1) := by decide +kernel
theorem dX3_parted_105 : decode cX3_parted 105 = .ok (.aload_n 0, 1) := by decide +kernel
theorem dX3_parted_106 : decode cX3_parted 106 = .ok (.getfield 9, 3) := by decide +kernel
theorem dX3_parted_109 : decode cX3_parted 109 = .ok (.bipush 80, 2) := by decide +kernel
theorem dX3_parted_111 : decode cX3_parted 111 = .ok (.iload 5, 2) := by decide +kernel
theorem dX3_parted_113 : decode cX3_parted 113 = .ok (.iadd, 1) := by decide +kernel
theorem dX3_parted_114 : decode cX3_parted 114 = .ok (.iaload, 1) := by decide +kernel
theorem dX3_parted_115 : decode cX3_parted 115 = .ok (.invokevirtual 110, 3) := by decide +kernel
theorem dX3_parted_118 : decode cX3_parted 118 = .ok (.iastore, 1) := by decide +kernel
theorem dX3_parted_119 : decode cX3_parted 119 = .ok (.aload_n 0, 1) := by decide +kernel
theorem dX3_parted_120 : decode cX3_parted 120 = .ok (.getfield 9, 3) := by decide +kernel
theorem dX3_parted_123 : decode cX3_parted 123 = .ok (.bipush 80, 2) := by decide +kernel
theorem dX3_parted_125 : decode cX3_parted 125 = .ok (.iload 5, 2) := by decide +kernel
theorem dX3_parted_127 : decode cX3_parted 127 = .ok (.iadd, 1) := by decide +kernel
theorem dX3_parted_128 : decode cX3_parted 128 = .ok (.iconst (-1), 1) := by decide +kernel
theorem dX3_parted_129 : decode cX3_parted 129 = .ok (.iastore, 1) := by decide +kernel
theorem dX3_parted_130 : decode cX3_parted 130 = .ok (.aload_n 0, 1) := by decide +kernel
theorem dX3_parted_131 : decode cX3_parted 131 = .ok (.aload_n 0, 1) := by decide +kernel
theorem dX3_parted_132 : decode cX3_parted 132 = .ok (.getfield 9, 3) := by decide +kernel
theorem dX3_parted_135 : decode cX3_parted 135 = .ok (.sipush 200, 3) := by decide +kernel
theorem dX3_parted_138 : decode cX3_parted 138 = .ok (.iload_n 3, 1) := by decide +kernel
theorem dX3_parted_139 : decode cX3_parted 139 = .ok (.iadd, 1) := by decide +kernel
theorem dX3_parted_140 : decode cX3_parted 140 = .ok (.iaload, 1) := by decide +kernel
theorem dX3_parted_141 : decode cX3_parted 141 = .ok (.invokevirtual 50, 3) := by decide +kernel
theorem dX3_parted_144 : decode cX3_parted 144 = .ok (.ireturn, 1) := by decide +kernel
set_option maxRecDepth 20000 in
theorem ggX3_split_X3_isRow : GoodIn wsX3_split wsX3_isRow := goodIn_r _ [6] (by decide +kernel) (by decide +kernel)
set_option maxRecDepth 20000 in
theorem gX3_split_X3_isRow : GoodIn wsX3_split (va_wsS RX3 88 yX3_isRow wsX3_isRow) := goodIn_app (goodIn_of _ (by decide +kernel)) ggX3_split_X3_isRow
set_option maxRecDepth 20000 in
theorem ggX3_split_X3_no : GoodIn wsX3_split wsX3_no := goodIn_r _ [10, 1, 58, 59, 60, 61, 62, 63] (by decide +kernel) (by decide +kernel)
set_option maxRecDepth 20000 in
theorem gX3_split_X3_no : GoodIn wsX3_split (wsV RX3 92 RX3 yX3_no wsX3_no) := goodIn_app (goodIn_of _ (by decide +kernel)) ggX3_split_X3_no
set_option maxRecDepth 20000 in
theorem ggX3_split_X3_isSize : GoodIn wsX3_split wsX3_isSize := goodIn_r _ [13] (by decide +kernel) (by decide +kernel)
set_option maxRecDepth 20000 in
theorem gX3_split_X3_isSize : GoodIn wsX3_split (va_wsS RX3 95 yX3_isSize wsX3_isSize) := goodIn_app (goodIn_of _ (by decide +kernel)) ggX3_split_X3_isSize
set_option maxRecDepth 20000 in
theorem ggX3_split_X3_parted : GoodIn wsX3_split wsX3_parted := goodIn_r _ [17, 2, 18, 19, 20, 5, 21, 22, 23, 24, 25, 26, 27, 28, 29, 30, 31, 32, 33, 34, 35, 36, 37, 38, 39, 40, 41, 42, 43, 44, 45, 46, 47, 48, 49, 50, 51, 52, 53, 54, 55, 56, 57, 58, 59, 60, 61, 62, 63] (by decide +kernel) (by decide +kernel)
set_option maxRecDepth 20000 in
theorem gX3_split_X3_parted : GoodIn wsX3_split (wsV RX3 119 RX3 yX3_parted wsX3_parted) := goodIn_app (goodIn_of _ (by decide +kernel)) ggX3_split_X3_parted
theorem dX3_split_0 : decode cX3_split 0 = .ok (.aload_n 0, 1) := by decide +kernel
theorem dX3_split_1 : decode cX3_split 1 = .ok (.iconst 0, 1) := by decide +kernel
theorem dX3_split_2 : decode cX3_split 2 = .ok (.putfield 16, 3) := by decide +kernel
theorem dX3_split_5 : decode cX3_split 5 = .ok (.iload_n 1, 1) := by decide +kernel
theorem dX3_split_6 : decode cX3_split 6 = .ok (.invokestatic 88, 3) := by decide +kernel
theorem dX3_split_9 : decode cX3_split 9 = .ok (.ifCond .eq 10, 3) := by decide +kernel
theorem dX3_split_12 : decode cX3_split 12 = .ok (.iload_n 3, 1) := by decide +kernel
theorem dX3_split_13 : decode cX3_split 13 = .ok (.invokestatic 88, 3) := by decide +kernel
theorem dX3_split_16 : decode cX3_split 16 = .ok (.ifCond .ne 9, 3) := by decide +kernel
theorem dX3_split_19 : decode cX3_split 19 = .ok (.aload_n 0, 1) := by decide +kernel
theorem dX3_split_20 : decode cX3_split 20 = .ok (.iconst 1, 1) := by decide +kernel
theorem dX3_split_21 : decode cX3_split 21 = .ok (.invokevirtual 92, 3) := by decide +kernel
theorem dX3_split_24 : decode cX3_split 24 = .ok (.ireturn, 1) := by decide +kernel
theorem dX3_split_25 : decode cX3_split 25 = .ok (.iload_n 2, 1) := by decide +kernel
theorem dX3_split_26 : decode cX3_split 26 = .ok (.invokestatic 95, 3) := by decide +kernel
theorem dX3_split_29 : decode cX3_split 29 = .ok (.ifCond .ne 9, 3) := by decide +kernel
theorem dX3_split_32 : decode cX3_split 32 = .ok (.aload_n 0, 1) := by decide +kernel
theorem dX3_split_33 : decode cX3_split 33 = .ok (.iconst 2, 1) := by decide +kernel
theorem dX3_split_34 : decode cX3_split 34 = .ok (.invokevirtual 92, 3) := by decide +kernel
theorem dX3_split_37 : decode cX3_split 37 = .ok (.ireturn, 1) := by decide +kernel
theorem dX3_split_38 : decode cX3_split 38 = .ok (.aload_n 0, 1) := by decide +kernel
theorem dX3_split_39 : decode cX3_split 39 = .ok (.getfield 9, 3) := by decide +kernel
theorem dX3_split_42 : decode cX3_split 42 = .ok (.sipush 200, 3) := by decide +kernel
theorem dX3_split_45 : decode cX3_split 45 = .ok (.iload_n 3, 1) := by decide +kernel
theorem dX3_split_46 : decode cX3_split 46 = .ok (.iadd, 1) := by decide +kernel
theorem dX3_split_47 : decode cX3_split 47 = .ok (.iaload, 1) := by decide +kernel
theorem dX3_split_48 : decode cX3_split 48 = .ok (.iconst (-1), 1) := by decide +kernel
theorem dX3_split_49 : decode cX3_split 49 = .ok (.if_icmp .ne 8, 3) := by decide +kernel
theorem dX3_split_52 : decode cX3_split 52 = .ok (.iload_n 1, 1) := by decide +kernel
theorem dX3_split_53 : decode cX3_split 53 = .ok (.iload_n 3, 1) := by decide +kernel
theorem dX3_split_54 : decode cX3_split 54 = .ok (.if_icmp .ne 9, 3) := by decide +kernel
theorem dX3_split_57 : decode cX3_split 57 = .ok (.aload_n 0, 1) := by decide +kernel
theorem dX3_split_58 : decode cX3_split 58 = .ok (.iconst 3, 1) := by decide +kernel
theorem dX3_split_59 : decode cX3_split 59 = .ok (.invokevirtual 92, 3) := by decide +kernel
theorem dX3_split_62 : decode cX3_split 62 = .ok (.ireturn, 1) := by decide +kernel
theorem dX3_split_63 : decode cX3_split 63 = .ok (.aload_n 0, 1) := by decide +kernel
theorem dX3_split_64 : decode cX3_split 64 = .ok (.iload_n 1, 1) := by decide +kernel
theorem dX3_split_65 : decode cX3_split 65 = .ok (.iload_n 2, 1) := by decide +kernel
theorem dX3_split_66 : decode cX3_split 66 = .ok (.iload_n 3, 1) := by decide +kernel
theorem dX3_split_67 : decode cX3_split 67 = .ok (.invokevirtual 119, 3) := by decide +kernel
theorem dX3_split_70 : decode cX3_split 70 = .ok (.ireturn, 1) := by decide +kernel
set_option maxRecDepth 20000 in
theorem ggX3_fits_X3_end : GoodIn wsX3_fits wsX3_end := goodIn_r _ [6, 1, 7, 8, 9, 10, 11, 12] (by decide +kernel) (by decide +kernel)
set_option maxRecDepth 20000 in
theorem gX3_fits_X3_end : GoodIn wsX3_fits (wsV RX3 107 RX3 yX3_end wsX3_end) := goodIn_app (goodIn_of _ (by decide +kernel)) ggX3_fits_X3_end
theorem dX3_fits_0 : decode cX3_fits 0 = .ok (.iload_n 1, 1) := by decide +kernel
theorem dX3_fits_1 : decode cX3_fits 1 = .ok (.iload_n 2, 1) := by decide +kernel
theorem dX3_fits_2 : decode cX3_fits 2 = .ok (.if_icmp .ne 5, 3) := by decide +kernel
theorem dX3_fits_5 : decode cX3_fits 5 = .ok (.iconst 0, 1) := by decide +kernel
theorem dX3_fits_6 : decode cX3_fits 6 = .ok (.ireturn, 1) := by decide +kernel
theorem dX3_fits_7 : decode cX3_fits 7 = .ok (.aload_n 0, 1) := by decide +kernel
theorem dX3_fits_8 : decode cX3_fits 8 = .ok (.getfield 9, 3) := by decide +kernel
theorem dX3_fits_11 : decode cX3_fits 11 = .ok (.sipush 200, 3) := by decide +kernel
theorem dX3_fits_14 : decode cX3_fits 14 = .ok (.iload_n 1, 1) := by decide +kernel
theorem dX3_fits_15 : decode cX3_fits 15 = .ok (.iadd, 1) := by decide +kernel
theorem dX3_fits_16 : decode cX3_fits 16 = .ok (.iaload, 1) := by decide +kernel
theorem dX3_fits_17 : decode cX3_fits 17 = .ok (.iconst (-1), 1) := by decide +kernel
theorem dX3_fits_18 : decode cX3_fits 18 = .ok (.if_icmp .eq 66, 3) := by decide +kernel
theorem dX3_fits_21 : decode cX3_fits 21 = .ok (.aload_n 0, 1) := by decide +kernel
theorem dX3_fits_22 : decode cX3_fits 22 = .ok (.getfield 9, 3) := by decide +kernel
theorem dX3_fits_25 : decode cX3_fits 25 = .ok (.sipush 200, 3) := by decide +kernel
theorem dX3_fits_28 : decode cX3_fits 28 = .ok (.iload_n 2, 1) := by decide +kernel
theorem dX3_fits_29 : decode cX3_fits 29 = .ok (.iadd, 1) := by decide +kernel
theorem dX3_fits_30 : decode cX3_fits 30 = .ok (.iaload, 1) := by decide +kernel
theorem dX3_fits_31 : decode cX3_fits 31 = .ok (.iconst (-1), 1) := by decide +kernel
theorem dX3_fits_32 : decode cX3_fits 32 = .ok (.if_icmp .eq 52, 3) := by decide +kernel
theorem dX3_fits_35 : decode cX3_fits 35 = .ok (.aload_n 0, 1) := by decide +kernel
theorem dX3_fits_36 : decode cX3_fits 36 = .ok (.getfield 9, 3) := by decide +kernel
theorem dX3_fits_39 : decode cX3_fits 39 = .ok (.iconst 0, 1) := by decide +kernel
theorem dX3_fits_40 : decode cX3_fits 40 = .ok (.aload_n 0, 1) := by decide +kernel
theorem dX3_fits_41 : decode cX3_fits 41 = .ok (.aload_n 0, 1) := by decide +kernel
theorem dX3_fits_42 : decode cX3_fits 42 = .ok (.getfield 9, 3) := by decide +kernel
theorem dX3_fits_45 : decode cX3_fits 45 = .ok (.sipush 200, 3) := by decide +kernel
theorem dX3_fits_48 : decode cX3_fits 48 = .ok (.iload_n 1, 1) := by decide +kernel
theorem dX3_fits_49 : decode cX3_fits 49 = .ok (.iadd, 1) := by decide +kernel
theorem dX3_fits_50 : decode cX3_fits 50 = .ok (.iaload, 1) := by decide +kernel
theorem dX3_fits_51 : decode cX3_fits 51 = .ok (.bipush 80, 2) := by decide +kernel
theorem dX3_fits_53 : decode cX3_fits 53 = .ok (.invokevirtual 107, 3) := by decide +kernel
theorem dX3_fits_56 : decode cX3_fits 56 = .ok (.iadd, 1) := by decide +kernel
theorem dX3_fits_57 : decode cX3_fits 57 = .ok (.iaload, 1) := by decide +kernel
theorem dX3_fits_58 : decode cX3_fits 58 = .ok (.aload_n 0, 1) := by decide +kernel
theorem dX3_fits_59 : decode cX3_fits 59 = .ok (.getfield 9, 3) := by decide +kernel
theorem dX3_fits_62 : decode cX3_fits 62 = .ok (.iconst 0, 1) := by decide +kernel
theorem dX3_fits_63 : decode cX3_fits 63 = .ok (.aload_n 0, 1) := by decide +kernel
theorem dX3_fits_64 : decode cX3_fits 64 = .ok (.aload_n 0, 1) := by decide +kernel
theorem dX3_fits_65 : decode cX3_fits 65 = .ok (.getfield 9, 3) := by decide +kernel
theorem dX3_fits_68 : decode cX3_fits 68 = .ok (.sipush 200, 3) := by decide +kernel
theorem dX3_fits_71 : decode cX3_fits 71 = .ok (.iload_n 2, 1) := by decide +kernel
theorem dX3_fits_72 : decode cX3_fits 72 = .ok (.iadd, 1) := by decide +kernel
theorem dX3_fits_73 : decode cX3_fits 73 = .ok (.iaload, 1) := by decide +kernel
theorem dX3_fits_74 : decode cX3_fits 74 = .ok (.bipush 40, 2) := by decide +kernel
theorem dX3_fits_76 : decode cX3_fits 76 = .ok (.invokevirtual 107, 3) := by decide +kernel
theorem dX3_fits_79 : decode cX3_fits 79 = .ok (.iadd, 1) := by decide +kernel
theorem dX3_fits_80 : decode cX3_fits 80 = .ok (.iaload, 1) := by decide +kernel
theorem dX3_fits_81 : decode cX3_fits 81 = .ok (.if_icmp .ge 7, 3) := by decide +kernel
theorem dX3_fits_84 : decode cX3_fits 84 = .ok (.iconst 1, 1) := by decide +kernel
theorem dX3_fits_85 : decode cX3_fits 85 = .ok (.goto 4, 3) := by decide +kernel
theorem dX3_fits_88 : decode cX3_fits 88 = .ok (.iconst 0, 1) := by decide +kernel
theorem dX3_fits_89 : decode cX3_fits 89 = .ok (.ireturn, 1) := by decide +kernel
set_option maxRecDepth 20000 in
theorem ggX3_join_X3_isRow : GoodIn wsX3_join wsX3_isRow := goodIn_r _ [6] (by decide +kernel) (by decide +kernel)
set_option maxRecDepth 20000 in
theorem gX3_join_X3_isRow : GoodIn wsX3_join (va_wsS RX3 88 yX3_isRow wsX3_isRow) := goodIn_app (goodIn_of _ (by decide +kernel)) ggX3_join_X3_isRow
set_option maxRecDepth 20000 in
theorem ggX3_join_X3_no : GoodIn wsX3_join wsX3_no := goodIn_r _ [10, 1, 47, 48, 49, 50, 51, 52] (by decide +kernel) (by decide +kernel)
set_option maxRecDepth 20000 in
theorem gX3_join_X3_no : GoodIn wsX3_join (wsV RX3 92 RX3 yX3_no wsX3_no) := goodIn_app (goodIn_of _ (by decide +kernel)) ggX3_join_X3_no
set_option maxRecDepth 20000 in
theorem ggX3_join_X3_fits : GoodIn wsX3_join wsX3_fits := goodIn_r _ [14, 2, 15, 16, 17, 5, 18, 47, 48, 49, 50, 51, 52] (by decide +kernel) (by decide +kernel)
set_option maxRecDepth 20000 in
theorem gX3_join_X3_fits : GoodIn wsX3_join (wsV RX3 123 RX3 yX3_fits wsX3_fits) := goodIn_app (goodIn_of _ (by decide +kernel)) ggX3_join_X3_fits
set_option maxRecDepth 20000 in
theorem ggX3_join_X3_together : GoodIn wsX3_join wsX3_together := goodIn_r _ [22, 15, 16, 17, 5, 18, 2, 23, 24, 25, 26, 27, 28, 29, 30, 31, 32, 33, 34, 35, 36, 37, 38, 39, 40, 41, 42, 47, 48, 49, 50, 51, 52] (by decide +kernel) (by decide +kernel)
set_option maxRecDepth 20000 in
theorem gX3_join_X3_together : GoodIn wsX3_join (wsV RX3 113 RX3 yX3_together wsX3_together) := goodIn_app (goodIn_of _ (by decide +kernel)) ggX3_join_X3_together
set_option maxRecDepth 20000 in
theorem ggX3_join_X3_count : GoodIn wsX3_join wsX3_count := goodIn_r _ [46, 2, 43, 44, 45, 5, 47, 48, 49, 50, 51, 52] (by decide +kernel) (by decide +kernel)
set_option maxRecDepth 20000 in
theorem gX3_join_X3_count : GoodIn wsX3_join (wsV RX3 50 RX3 yX3_count wsX3_count) := goodIn_app (goodIn_of _ (by decide +kernel)) ggX3_join_X3_count
theorem dX3_join_0 : decode cX3_join 0 = .ok (.aload_n 0, 1) := by decide +kernel
theorem dX3_join_1 : decode cX3_join 1 = .ok (.iconst 0, 1) := by decide +kernel
theorem dX3_join_2 : decode cX3_join 2 = .ok (.putfield 16, 3) := by decide +kernel
theorem dX3_join_5 : decode cX3_join 5 = .ok (.iload_n 1, 1) := by decide +kernel
theorem dX3_join_6 : decode cX3_join 6 = .ok (.invokestatic 88, 3) := by decide +kernel
theorem dX3_join_9 : decode cX3_join 9 = .ok (.ifCond .eq 10, 3) := by decide +kernel
theorem dX3_join_12 : decode cX3_join 12 = .ok (.iload_n 2, 1) := by decide +kernel
theorem dX3_join_13 : decode cX3_join 13 = .ok (.invokestatic 88, 3) := by decide +kernel
theorem dX3_join_16 : decode cX3_join 16 = .ok (.ifCond .ne 9, 3) := by decide +kernel
theorem dX3_join_19 : decode cX3_join 19 = .ok (.aload_n 0, 1) := by decide +kernel
theorem dX3_join_20 : decode cX3_join 20 = .ok (.iconst 1, 1) := by decide +kernel
theorem dX3_join_21 : decode cX3_join 21 = .ok (.invokevirtual 92, 3) := by decide +kernel
theorem dX3_join_24 : decode cX3_join 24 = .ok (.ireturn, 1) := by decide +kernel
theorem dX3_join_25 : decode cX3_join 25 = .ok (.aload_n 0, 1) := by decide +kernel
theorem dX3_join_26 : decode cX3_join 26 = .ok (.iload_n 1, 1) := by decide +kernel
theorem dX3_join_27 : decode cX3_join 27 = .ok (.iload_n 2, 1) := by decide +kernel
theorem dX3_join_28 : decode cX3_join 28 = .ok (.invokevirtual 123, 3) := by decide +kernel
theorem dX3_join_31 : decode cX3_join 31 = .ok (.ifCond .ne 9, 3) := by decide +kernel
theorem dX3_join_34 : decode cX3_join 34 = .ok (.aload_n 0, 1) := by decide +kernel
theorem dX3_join_35 : decode cX3_join 35 = .ok (.iconst 2, 1) := by decide +kernel
theorem dX3_join_36 : decode cX3_join 36 = .ok (.invokevirtual 92, 3) := by decide +kernel
theorem dX3_join_39 : decode cX3_join 39 = .ok (.ireturn, 1) := by decide +kernel
theorem dX3_join_40 : decode cX3_join 40 = .ok (.aload_n 0, 1) := by decide +kernel
theorem dX3_join_41 : decode cX3_join 41 = .ok (.getfield 9, 3) := by decide +kernel
theorem dX3_join_44 : decode cX3_join 44 = .ok (.sipush 200, 3) := by decide +kernel
theorem dX3_join_47 : decode cX3_join 47 = .ok (.iload_n 1, 1) := by decide +kernel
theorem dX3_join_48 : decode cX3_join 48 = .ok (.iadd, 1) := by decide +kernel
theorem dX3_join_49 : decode cX3_join 49 = .ok (.aload_n 0, 1) := by decide +kernel
theorem dX3_join_50 : decode cX3_join 50 = .ok (.aload_n 0, 1) := by decide +kernel
theorem dX3_join_51 : decode cX3_join 51 = .ok (.getfield 9, 3) := by decide +kernel
theorem dX3_join_54 : decode cX3_join 54 = .ok (.sipush 200, 3) := by decide +kernel
theorem dX3_join_57 : decode cX3_join 57 = .ok (.iload_n 1, 1) := by decide +kernel
theorem dX3_join_58 : decode cX3_join 58 = .ok (.iadd, 1) := by decide +kernel
theorem dX3_join_59 : decode cX3_join 59 = .ok (.iaload, 1) := by decide +kernel
theorem dX3_join_60 : decode cX3_join 60 = .ok (.aload_n 0, 1) := by decide +kernel
theorem dX3_join_61 : decode cX3_join 61 = .ok (.getfield 9, 3) := by decide +kernel
theorem dX3_join_64 : decode cX3_join 64 = .ok (.sipush 200, 3) := by decide +kernel
theorem dX3_join_67 : decode cX3_join 67 = .ok (.iload_n 2, 1) := by decide +kernel
theorem dX3_join_68 : decode cX3_join 68 = .ok (.iadd, 1) := by decide +kernel
theorem dX3_join_69 : decode cX3_join 69 = .ok (.iaload, 1) := by decide +kernel
theorem dX3_join_70 : decode cX3_join 70 = .ok (.invokevirtual 113, 3) := by decide +kernel
theorem dX3_join_73 : decode cX3_join 73 = .ok (.iastore, 1) := by decide +kernel
theorem dX3_join_74 : decode cX3_join 74 = .ok (.aload_n 0, 1) := by decide +kernel
theorem dX3_join_75 : decode cX3_join 75 = .ok (.getfield 9, 3) := by decide +kernel
theorem dX3_join_78 : decode cX3_join 78 = .ok (.sipush 200, 3) := by decide +kernel
theorem dX3_join_81 : decode cX3_join 81 = .ok (.iload_n 2, 1) := by decide +kernel
theorem dX3_join_82 : decode cX3_join 82 = .ok (.iadd, 1) := by decide +kernel
theorem dX3_join_83 : decode cX3_join 83 = .ok (.iconst (-1), 1) := by decide +kernel
theorem dX3_join_84 : decode cX3_join 84 = .ok (.iastore, 1) := by decide +kernel
theorem dX3_join_85 : decode cX3_join 85 = .ok (.aload_n 0, 1) := by decide +kernel
theorem dX3_join_86 : decode cX3_join 86 = .ok (.aload_n 0, 1) := by decide +kernel
theorem dX3_join_87 : decode cX3_join 87 = .ok (.getfield 9, 3) := by decide +kernel
theorem dX3_join_90 : decode cX3_join 90 = .ok (.sipush 200, 3) := by decide +kernel
theorem dX3_join_93 : decode cX3_join 93 = .ok (.iload_n 1, 1) := by decide +kernel
theorem dX3_join_94 : decode cX3_join 94 = .ok (.iadd, 1) := by decide +kernel
theorem dX3_join_95 : decode cX3_join 95 = .ok (.iaload, 1) := by decide +kernel
theorem dX3_join_96 : decode cX3_join 96 = .ok (.invokevirtual 50, 3) := by decide +kernel
theorem dX3_join_99 : decode cX3_join 99 = .ok (.ireturn, 1) := by decide +kernel
set_option maxRecDepth 20000 in
theorem ggX3_apples_X3_ok : GoodIn wsX3_apples wsX3_ok := goodIn_r _ [6, 7, 8, 9, 10, 11, 12, 13] (by decide +kernel) (by decide +kernel)
set_option maxRecDepth 20000 in
theorem gX3_apples_X3_ok : GoodIn wsX3_apples (wsV RX3 127 RX3 yX3_ok wsX3_ok) := goodIn_app (goodIn_of _ (by decide +kernel)) ggX3_apples_X3_ok
theorem dX3_apples_0 : decode cX3_apples 0 = .ok (.aload_n 0, 1) := by decide +kernel
theorem dX3_apples_1 : decode cX3_apples 1 = .ok (.aload_n 0, 1) := by decide +kernel
theorem dX3_apples_2 : decode cX3_apples 2 = .ok (.getfield 78, 3) := by decide +kernel
theorem dX3_apples_5 : decode cX3_apples 5 = .ok (.invokevirtual 127, 3) := by decide +kernel
theorem dX3_apples_8 : decode cX3_apples 8 = .ok (.ireturn, 1) := by decide +kernel
set_option maxRecDepth 20000 in
theorem ggX3_turnings_X3_ok : GoodIn wsX3_turnings wsX3_ok := goodIn_r _ [6, 7, 8, 9, 10, 11, 12, 13] (by decide +kernel) (by decide +kernel)
set_option maxRecDepth 20000 in
theorem gX3_turnings_X3_ok : GoodIn wsX3_turnings (wsV RX3 127 RX3 yX3_ok wsX3_ok) := goodIn_app (goodIn_of _ (by decide +kernel)) ggX3_turnings_X3_ok
theorem dX3_turnings_0 : decode cX3_turnings 0 = .ok (.aload_n 0, 1) := by decide +kernel
theorem dX3_turnings_1 : decode cX3_turnings 1 = .ok (.aload_n 0, 1) := by decide +kernel
theorem dX3_turnings_2 : decode cX3_turnings 2 = .ok (.getfield 26, 3) := by decide +kernel
theorem dX3_turnings_5 : decode cX3_turnings 5 = .ok (.invokevirtual 127, 3) := by decide +kernel
theorem dX3_turnings_8 : decode cX3_turnings 8 = .ok (.ireturn, 1) := by decide +kernel
set_option maxRecDepth 20000 in
theorem ggX3_sizeOf_X3_isRow : GoodIn wsX3_sizeOf wsX3_isRow := goodIn_r _ [6] (by decide +kernel) (by decide +kernel)
set_option maxRecDepth 20000 in
theorem gX3_sizeOf_X3_isRow : GoodIn wsX3_sizeOf (va_wsS RX3 88 yX3_isRow wsX3_isRow) := goodIn_app (goodIn_of _ (by decide +kernel)) ggX3_sizeOf_X3_isRow
set_option maxRecDepth 20000 in
theorem ggX3_sizeOf_X3_count : GoodIn wsX3_sizeOf wsX3_count := goodIn_r _ [10, 2, 7, 8, 9, 5, 15, 16, 17, 18, 19, 20] (by decide +kernel) (by decide +kernel)
set_option maxRecDepth 20000 in
theorem gX3_sizeOf_X3_count : GoodIn wsX3_sizeOf (wsV RX3 50 RX3 yX3_count wsX3_count) := goodIn_app (goodIn_of _ (by decide +kernel)) ggX3_sizeOf_X3_count
set_option maxRecDepth 20000 in
theorem ggX3_sizeOf_X3_no : GoodIn wsX3_sizeOf wsX3_no := goodIn_r _ [14, 1, 15, 16, 17, 18, 19, 20] (by decide +kernel) (by decide +kernel)
set_option maxRecDepth 20000 in
theorem gX3_sizeOf_X3_no : GoodIn wsX3_sizeOf (wsV RX3 92 RX3 yX3_no wsX3_no) := goodIn_app (goodIn_of _ (by decide +kernel)) ggX3_sizeOf_X3_no
theorem dX3_sizeOf_0 : decode cX3_sizeOf 0 = .ok (.aload_n 0, 1) := by decide +kernel
theorem dX3_sizeOf_1 : decode cX3_sizeOf 1 = .ok (.iconst 0, 1) := by decide +kernel
theorem dX3_sizeOf_2 : decode cX3_sizeOf 2 = .ok (.putfield 16, 3) := by decide +kernel
theorem dX3_sizeOf_5 : decode cX3_sizeOf 5 = .ok (.iload_n 1, 1) := by decide +kernel
theorem dX3_sizeOf_6 : decode cX3_sizeOf 6 = .ok (.invokestatic 88, 3) := by decide +kernel
theorem dX3_sizeOf_9 : decode cX3_sizeOf 9 = .ok (.ifCond .eq 20, 3) := by decide +kernel
theorem dX3_sizeOf_12 : decode cX3_sizeOf 12 = .ok (.aload_n 0, 1) := by decide +kernel
theorem dX3_sizeOf_13 : decode cX3_sizeOf 13 = .ok (.aload_n 0, 1) := by decide +kernel
theorem dX3_sizeOf_14 : decode cX3_sizeOf 14 = .ok (.getfield 9, 3) := by decide +kernel
theorem dX3_sizeOf_17 : decode cX3_sizeOf 17 = .ok (.sipush 200, 3) := by decide +kernel
theorem dX3_sizeOf_20 : decode cX3_sizeOf 20 = .ok (.iload_n 1, 1) := by decide +kernel
theorem dX3_sizeOf_21 : decode cX3_sizeOf 21 = .ok (.iadd, 1) := by decide +kernel
theorem dX3_sizeOf_22 : decode cX3_sizeOf 22 = .ok (.iaload, 1) := by decide +kernel
theorem dX3_sizeOf_23 : decode cX3_sizeOf 23 = .ok (.invokevirtual 50, 3) := by decide +kernel
theorem dX3_sizeOf_26 : decode cX3_sizeOf 26 = .ok (.goto 8, 3) := by decide +kernel
theorem dX3_sizeOf_29 : decode cX3_sizeOf 29 = .ok (.aload_n 0, 1) := by decide +kernel
theorem dX3_sizeOf_30 : decode cX3_sizeOf 30 = .ok (.iconst 1, 1) := by decide +kernel
theorem dX3_sizeOf_31 : decode cX3_sizeOf 31 = .ok (.invokevirtual 92, 3) := by decide +kernel
theorem dX3_sizeOf_34 : decode cX3_sizeOf 34 = .ok (.ireturn, 1) := by decide +kernel
set_option maxRecDepth 20000 in
theorem ggX3_top_X3_isRow : GoodIn wsX3_top wsX3_isRow := goodIn_r _ [6] (by decide +kernel) (by decide +kernel)
set_option maxRecDepth 20000 in
theorem gX3_top_X3_isRow : GoodIn wsX3_top (va_wsS RX3 88 yX3_isRow wsX3_isRow) := goodIn_app (goodIn_of _ (by decide +kernel)) ggX3_top_X3_isRow
set_option maxRecDepth 20000 in
theorem ggX3_top_X3_sizeAt : GoodIn wsX3_top wsX3_sizeAt := goodIn_r _ [10, 2, 15, 16, 17, 18, 19, 20] (by decide +kernel) (by decide +kernel)
set_option maxRecDepth 20000 in
theorem gX3_top_X3_sizeAt : GoodIn wsX3_top (wsV RX3 130 RX3 yX3_sizeAt wsX3_sizeAt) := goodIn_app (goodIn_of _ (by decide +kernel)) ggX3_top_X3_sizeAt
set_option maxRecDepth 20000 in
theorem ggX3_top_X3_no : GoodIn wsX3_top wsX3_no := goodIn_r _ [14, 1, 15, 16, 17, 18, 19, 20] (by decide +kernel) (by decide +kernel)
set_option maxRecDepth 20000 in
theorem gX3_top_X3_no : GoodIn wsX3_top (wsV RX3 92 RX3 yX3_no wsX3_no) := goodIn_app (goodIn_of _ (by decide +kernel)) ggX3_top_X3_no
theorem dX3_top_0 : decode cX3_top 0 = .ok (.aload_n 0, 1) := by decide +kernel
theorem dX3_top_1 : decode cX3_top 1 = .ok (.iconst 0, 1) := by decide +kernel
theorem dX3_top_2 : decode cX3_top 2 = .ok (.putfield 16, 3) := by decide +kernel
theorem dX3_top_5 : decode cX3_top 5 = .ok (.iload_n 1, 1) := by decide +kernel
theorem dX3_top_6 : decode cX3_top 6 = .ok (.invokestatic 88, 3) := by decide +kernel
theorem dX3_top_9 : decode cX3_top 9 = .ok (.ifCond .eq 20, 3) := by decide +kernel
theorem dX3_top_12 : decode cX3_top 12 = .ok (.aload_n 0, 1) := by decide +kernel
theorem dX3_top_13 : decode cX3_top 13 = .ok (.aload_n 0, 1) := by decide +kernel
theorem dX3_top_14 : decode cX3_top 14 = .ok (.getfield 9, 3) := by decide +kernel
theorem dX3_top_17 : decode cX3_top 17 = .ok (.sipush 200, 3) := by decide +kernel
theorem dX3_top_20 : decode cX3_top 20 = .ok (.iload_n 1, 1) := by decide +kernel
theorem dX3_top_21 : decode cX3_top 21 = .ok (.iadd, 1) := by decide +kernel
theorem dX3_top_22 : decode cX3_top 22 = .ok (.iaload, 1) := by decide +kernel
theorem dX3_top_23 : decode cX3_top 23 = .ok (.invokevirtual 130, 3) := by decide +kernel
theorem dX3_top_26 : decode cX3_top 26 = .ok (.goto 8, 3) := by decide +kernel
theorem dX3_top_29 : decode cX3_top 29 = .ok (.aload_n 0, 1) := by decide +kernel
theorem dX3_top_30 : decode cX3_top 30 = .ok (.iconst 1, 1) := by decide +kernel
theorem dX3_top_31 : decode cX3_top 31 = .ok (.invokevirtual 92, 3) := by decide +kernel
theorem dX3_top_34 : decode cX3_top 34 = .ok (.ireturn, 1) := by decide +kernel
set_option maxRecDepth 20000 in
theorem ggX3_height_X3_isRow : GoodIn wsX3_height wsX3_isRow := goodIn_r _ [6] (by decide +kernel) (by decide +kernel)
set_option maxRecDepth 20000 in
theorem gX3_height_X3_isRow : GoodIn wsX3_height (va_wsS RX3 88 yX3_isRow wsX3_isRow) := goodIn_app (goodIn_of _ (by decide +kernel)) ggX3_height_X3_isRow
set_option maxRecDepth 20000 in
theorem ggX3_height_X3_high : GoodIn wsX3_height wsX3_high := goodIn_r _ [10, 2, 11, 12, 13, 14, 7, 8, 9, 5, 19, 20, 21, 22, 23, 24] (by decide +kernel) (by decide +kernel)
set_option maxRecDepth 20000 in
theorem gX3_height_X3_high : GoodIn wsX3_height (wsV RX3 53 RX3 yX3_high wsX3_high) := goodIn_app (goodIn_of _ (by decide +kernel)) ggX3_height_X3_high
set_option maxRecDepth 20000 in
theorem ggX3_height_X3_no : GoodIn wsX3_height wsX3_no := goodIn_r _ [18, 1, 19, 20, 21, 22, 23, 24] (by decide +kernel) (by decide +kernel)
set_option maxRecDepth 20000 in
theorem gX3_height_X3_no : GoodIn wsX3_height (wsV RX3 92 RX3 yX3_no wsX3_no) := goodIn_app (goodIn_of _ (by decide +kernel)) ggX3_height_X3_no
theorem dX3_height_0 : decode cX3_height 0 = .ok (.aload_n 0, 1) := by decide +kernel
theorem dX3_height_1 : decode cX3_height 1 = .ok (.iconst 0, 1) := by decide +kernel
theorem dX3_height_2 : decode cX3_height 2 = .ok (.putfield 16, 3) := by decide +kernel
theorem dX3_height_5 : decode cX3_height 5 = .ok (.iload_n 1, 1) := by decide +kernel
theorem dX3_height_6 : decode cX3_height 6 = .ok (.invokestatic 88, 3) := by decide +kernel
theorem dX3_height_9 : decode cX3_height 9 = .ok (.ifCond .eq 20, 3) := by decide +kernel
theorem dX3_height_12 : decode cX3_height 12 = .ok (.aload_n 0, 1) := by decide +kernel
theorem dX3_height_13 : decode cX3_height 13 = .ok (.aload_n 0, 1) := by decide +kernel
theorem dX3_height_14 : decode cX3_height 14 = .ok (.getfield 9, 3) := by decide +kernel
theorem dX3_height_17 : decode cX3_height 17 = .ok (.sipush 200, 3) := by decide +kernel
theorem dX3_height_20 : decode cX3_height 20 = .ok (.iload_n 1, 1) := by decide +kernel
theorem dX3_height_21 : decode cX3_height 21 = .ok (.iadd, 1) := by decide +kernel
theorem dX3_height_22 : decode cX3_height 22 = .ok (.iaload, 1) := by decide +kernel
theorem dX3_height_23 : decode cX3_height 23 = .ok (.invokevirtual 53, 3) := by decide +kernel
theorem dX3_height_26 : decode cX3_height 26 = .ok (.goto 8, 3) := by decide +kernel
theorem dX3_height_29 : decode cX3_height 29 = .ok (.aload_n 0, 1) := by decide +kernel
theorem dX3_height_30 : decode cX3_height 30 = .ok (.iconst 1, 1) := by decide +kernel
theorem dX3_height_31 : decode cX3_height 31 = .ok (.invokevirtual 92, 3) := by decide +kernel
theorem dX3_height_34 : decode cX3_height 34 = .ok (.ireturn, 1) := by decide +kernel
set_option maxRecDepth 20000 in
theorem ggX3_lowest_X3_count : GoodIn wsX3_lowest wsX3_count := goodIn_r _ [6, 1, 2, 3, 4, 5, 7, 8, 9, 10, 11, 12] (by decide +kernel) (by decide +kernel)
set_option maxRecDepth 20000 in
theorem gX3_lowest_X3_count : GoodIn wsX3_lowest (wsV RX3 50 RX3 yX3_count wsX3_count) := goodIn_app (goodIn_of _ (by decide +kernel)) ggX3_lowest_X3_count
theorem dX3_lowest_0 : decode cX3_lowest 0 = .ok (.aload_n 0, 1) := by decide +kernel
theorem dX3_lowest_1 : decode cX3_lowest 1 = .ok (.aload_n 0, 1) := by decide +kernel
theorem dX3_lowest_2 : decode cX3_lowest 2 = .ok (.getfield 9, 3) := by decide +kernel
theorem dX3_lowest_5 : decode cX3_lowest 5 = .ok (.sipush 200, 3) := by decide +kernel
theorem dX3_lowest_8 : decode cX3_lowest 8 = .ok (.iload_n 1, 1) := by decide +kernel
theorem dX3_lowest_9 : decode cX3_lowest 9 = .ok (.iadd, 1) := by decide +kernel
theorem dX3_lowest_10 : decode cX3_lowest 10 = .ok (.iaload, 1) := by decide +kernel
theorem dX3_lowest_11 : decode cX3_lowest 11 = .ok (.invokevirtual 50, 3) := by decide +kernel
theorem dX3_lowest_14 : decode cX3_lowest 14 = .ok (.istore_n 2, 1) := by decide +kernel
theorem dX3_lowest_15 : decode cX3_lowest 15 = .ok (.iconst 0, 1) := by decide +kernel
theorem dX3_lowest_16 : decode cX3_lowest 16 = .ok (.istore_n 3, 1) := by decide +kernel
theorem dX3_lowest_17 : decode cX3_lowest 17 = .ok (.iload_n 2, 1) := by decide +kernel
theorem dX3_lowest_18 : decode cX3_lowest 18 = .ok (.ifCond .le 13, 3) := by decide +kernel
theorem dX3_lowest_21 : decode cX3_lowest 21 = .ok (.iload_n 2, 1) := by decide +kernel
theorem dX3_lowest_22 : decode cX3_lowest 22 = .ok (.iconst 2, 1) := by decide +kernel
theorem dX3_lowest_23 : decode cX3_lowest 23 = .ok (.idiv, 1) := by decide +kernel
theorem dX3_lowest_24 : decode cX3_lowest 24 = .ok (.istore_n 2, 1) := by decide +kernel
theorem dX3_lowest_25 : decode cX3_lowest 25 = .ok (.iinc 3 1, 3) := by decide +kernel
theorem dX3_lowest_28 : decode cX3_lowest 28 = .ok (.goto (-11), 3) := by decide +kernel
theorem dX3_lowest_31 : decode cX3_lowest 31 = .ok (.iload_n 3, 1) := by decide +kernel
theorem dX3_lowest_32 : decode cX3_lowest 32 = .ok (.ireturn, 1) := by decide +kernel
set_option maxRecDepth 20000 in
theorem ggX3_leastHeight_X3_isRow : GoodIn wsX3_leastHeight wsX3_isRow := goodIn_r _ [5] (by decide +kernel) (by decide +kernel)
set_option maxRecDepth 20000 in
theorem gX3_leastHeight_X3_isRow : GoodIn wsX3_leastHeight (va_wsS RX3 88 yX3_isRow wsX3_isRow) := goodIn_app (goodIn_of _ (by decide +kernel)) ggX3_leastHeight_X3_isRow
set_option maxRecDepth 20000 in
theorem ggX3_leastHeight_X3_lowest : GoodIn wsX3_leastHeight wsX3_lowest := goodIn_r _ [9, 10, 11, 12, 13, 4, 14, 19, 20, 21, 22, 23, 24] (by decide +kernel) (by decide +kernel)
set_option maxRecDepth 20000 in
theorem gX3_leastHeight_X3_lowest : GoodIn wsX3_leastHeight (wsV RX3 133 RX3 yX3_lowest wsX3_lowest) := goodIn_app (goodIn_of _ (by decide +kernel)) ggX3_leastHeight_X3_lowest
set_option maxRecDepth 20000 in
theorem ggX3_leastHeight_X3_no : GoodIn wsX3_leastHeight wsX3_no := goodIn_r _ [18, 1, 19, 20, 21, 22, 23, 24] (by decide +kernel) (by decide +kernel)
set_option maxRecDepth 20000 in
theorem gX3_leastHeight_X3_no : GoodIn wsX3_leastHeight (wsV RX3 92 RX3 yX3_no wsX3_no) := goodIn_app (goodIn_of _ (by decide +kernel)) ggX3_leastHeight_X3_no
theorem dX3_leastHeight_0 : decode cX3_leastHeight 0 = .ok (.aload_n 0, 1) := by decide +kernel
theorem dX3_leastHeight_1 : decode cX3_leastHeight 1 = .ok (.iconst 0, 1) := by decide +kernel
theorem dX3_leastHeight_2 : decode cX3_leastHeight 2 = .ok (.putfield 16, 3) := by decide +kernel
theorem dX3_leastHeight_5 : decode cX3_leastHeight 5 = .ok (.iload_n 1, 1) := by decide +kernel
theorem dX3_leastHeight_6 : decode cX3_leastHeight 6 = .ok (.invokestatic 88, 3) := by decide +kernel
theorem dX3_leastHeight_9 : decode cX3_leastHeight 9 = .ok (.ifCond .eq 11, 3) := by decide +kernel
theorem dX3_leastHeight_12 : decode cX3_leastHeight 12 = .ok (.aload_n 0, 1) := by decide +kernel
theorem dX3_leastHeight_13 : decode cX3_leastHeight 13 = .ok (.iload_n 1, 1) := by decide +kernel
theorem dX3_leastHeight_14 : decode cX3_leastHeight 14 = .ok (.invokevirtual 133, 3) := by decide +kernel
theorem dX3_leastHeight_17 : decode cX3_leastHeight 17 = .ok (.goto 8, 3) := by decide +kernel
theorem dX3_leastHeight_20 : decode cX3_leastHeight 20 = .ok (.aload_n 0, 1) := by decide +kernel
theorem dX3_leastHeight_21 : decode cX3_leastHeight 21 = .ok (.iconst 1, 1) := by decide +kernel
theorem dX3_leastHeight_22 : decode cX3_leastHeight 22 = .ok (.invokevirtual 92, 3) := by decide +kernel
theorem dX3_leastHeight_25 : decode cX3_leastHeight 25 = .ok (.ireturn, 1) := by decide +kernel
set_option maxRecDepth 20000 in
theorem ggX3_depths_X3_isRow : GoodIn wsX3_depths wsX3_isRow := goodIn_r _ [6] (by decide +kernel) (by decide +kernel)
set_option maxRecDepth 20000 in
theorem gX3_depths_X3_isRow : GoodIn wsX3_depths (va_wsS RX3 88 yX3_isRow wsX3_isRow) := goodIn_app (goodIn_of _ (by decide +kernel)) ggX3_depths_X3_isRow
set_option maxRecDepth 20000 in
theorem ggX3_depths_X3_depthsOf : GoodIn wsX3_depths wsX3_depthsOf := goodIn_r _ [10, 2, 7, 8, 9, 5, 15, 16, 17, 18, 19, 20] (by decide +kernel) (by decide +kernel)
set_option maxRecDepth 20000 in
theorem gX3_depths_X3_depthsOf : GoodIn wsX3_depths (wsV RX3 62 RX3 yX3_depthsOf wsX3_depthsOf) := goodIn_app (goodIn_of _ (by decide +kernel)) ggX3_depths_X3_depthsOf
set_option maxRecDepth 20000 in
theorem ggX3_depths_X3_no : GoodIn wsX3_depths wsX3_no := goodIn_r _ [14, 1, 15, 16, 17, 18, 19, 20] (by decide +kernel) (by decide +kernel)
set_option maxRecDepth 20000 in
theorem gX3_depths_X3_no : GoodIn wsX3_depths (wsV RX3 92 RX3 yX3_no wsX3_no) := goodIn_app (goodIn_of _ (by decide +kernel)) ggX3_depths_X3_no
theorem dX3_depths_0 : decode cX3_depths 0 = .ok (.aload_n 0, 1) := by decide +kernel
theorem dX3_depths_1 : decode cX3_depths 1 = .ok (.iconst 0, 1) := by decide +kernel
theorem dX3_depths_2 : decode cX3_depths 2 = .ok (.putfield 16, 3) := by decide +kernel
theorem dX3_depths_5 : decode cX3_depths 5 = .ok (.iload_n 1, 1) := by decide +kernel
theorem dX3_depths_6 : decode cX3_depths 6 = .ok (.invokestatic 88, 3) := by decide +kernel
theorem dX3_depths_9 : decode cX3_depths 9 = .ok (.ifCond .eq 21, 3) := by decide +kernel
theorem dX3_depths_12 : decode cX3_depths 12 = .ok (.aload_n 0, 1) := by decide +kernel
theorem dX3_depths_13 : decode cX3_depths 13 = .ok (.aload_n 0, 1) := by decide +kernel
theorem dX3_depths_14 : decode cX3_depths 14 = .ok (.getfield 9, 3) := by decide +kernel
theorem dX3_depths_17 : decode cX3_depths 17 = .ok (.sipush 200, 3) := by decide +kernel
theorem dX3_depths_20 : decode cX3_depths 20 = .ok (.iload_n 1, 1) := by decide +kernel
theorem dX3_depths_21 : decode cX3_depths 21 = .ok (.iadd, 1) := by decide +kernel
theorem dX3_depths_22 : decode cX3_depths 22 = .ok (.iaload, 1) := by decide +kernel
theorem dX3_depths_23 : decode cX3_depths 23 = .ok (.iconst 0, 1) := by decide +kernel
theorem dX3_depths_24 : decode cX3_depths 24 = .ok (.invokevirtual 62, 3) := by decide +kernel
theorem dX3_depths_27 : decode cX3_depths 27 = .ok (.goto 8, 3) := by decide +kernel
theorem dX3_depths_30 : decode cX3_depths 30 = .ok (.aload_n 0, 1) := by decide +kernel
theorem dX3_depths_31 : decode cX3_depths 31 = .ok (.iconst 1, 1) := by decide +kernel
theorem dX3_depths_32 : decode cX3_depths 32 = .ok (.invokevirtual 92, 3) := by decide +kernel
theorem dX3_depths_35 : decode cX3_depths 35 = .ok (.ireturn, 1) := by decide +kernel
set_option maxRecDepth 20000 in
theorem ggX3_smallest_X3_isRow : GoodIn wsX3_smallest wsX3_isRow := goodIn_r _ [6] (by decide +kernel) (by decide +kernel)
set_option maxRecDepth 20000 in
theorem gX3_smallest_X3_isRow : GoodIn wsX3_smallest (va_wsS RX3 88 yX3_isRow wsX3_isRow) := goodIn_app (goodIn_of _ (by decide +kernel)) ggX3_smallest_X3_isRow
set_option maxRecDepth 20000 in
theorem ggX3_smallest_X3_end : GoodIn wsX3_smallest wsX3_end := goodIn_r _ [10, 2, 19, 20, 21, 22, 23, 24] (by decide +kernel) (by decide +kernel)
set_option maxRecDepth 20000 in
theorem gX3_smallest_X3_end : GoodIn wsX3_smallest (wsV RX3 107 RX3 yX3_end wsX3_end) := goodIn_app (goodIn_of _ (by decide +kernel)) ggX3_smallest_X3_end
set_option maxRecDepth 20000 in
theorem ggX3_smallest_X3_sizeAt : GoodIn wsX3_smallest wsX3_sizeAt := goodIn_r _ [14, 2, 19, 20, 21, 22, 23, 24] (by decide +kernel) (by decide +kernel)
set_option maxRecDepth 20000 in
theorem gX3_smallest_X3_sizeAt : GoodIn wsX3_smallest (wsV RX3 130 RX3 yX3_sizeAt wsX3_sizeAt) := goodIn_app (goodIn_of _ (by decide +kernel)) ggX3_smallest_X3_sizeAt
set_option maxRecDepth 20000 in
theorem ggX3_smallest_X3_no : GoodIn wsX3_smallest wsX3_no := goodIn_r _ [18, 1, 19, 20, 21, 22, 23, 24] (by decide +kernel) (by decide +kernel)
set_option maxRecDepth 20000 in
theorem gX3_smallest_X3_no : GoodIn wsX3_smallest (wsV RX3 92 RX3 yX3_no wsX3_no) := goodIn_app (goodIn_of _ (by decide +kernel)) ggX3_smallest_X3_no
theorem dX3_smallest_0 : decode cX3_smallest 0 = .ok (.aload_n 0, 1) := by decide +kernel
theorem dX3_smallest_1 : decode cX3_smallest 1 = .ok (.iconst 0, 1) := by decide +kernel
theorem dX3_smallest_2 : decode cX3_smallest 2 = .ok (.putfield 16, 3) := by decide +kernel
theorem dX3_smallest_5 : decode cX3_smallest 5 = .ok (.iload_n 1, 1) := by decide +kernel
theorem dX3_smallest_6 : decode cX3_smallest 6 = .ok (.invokestatic 88, 3) := by decide +kernel
theorem dX3_smallest_9 : decode cX3_smallest 9 = .ok (.ifCond .eq 26, 3) := by decide +kernel
theorem dX3_smallest_12 : decode cX3_smallest 12 = .ok (.aload_n 0, 1) := by decide +kernel
theorem dX3_smallest_13 : decode cX3_smallest 13 = .ok (.aload_n 0, 1) := by decide +kernel
theorem dX3_smallest_14 : decode cX3_smallest 14 = .ok (.aload_n 0, 1) := by decide +kernel
theorem dX3_smallest_15 : decode cX3_smallest 15 = .ok (.getfield 9, 3) := by decide +kernel
theorem dX3_smallest_18 : decode cX3_smallest 18 = .ok (.sipush 200, 3) := by decide +kernel
theorem dX3_smallest_21 : decode cX3_smallest 21 = .ok (.iload_n 1, 1) := by decide +kernel
theorem dX3_smallest_22 : decode cX3_smallest 22 = .ok (.iadd, 1) := by decide +kernel
theorem dX3_smallest_23 : decode cX3_smallest 23 = .ok (.iaload, 1) := by decide +kernel
theorem dX3_smallest_24 : decode cX3_smallest 24 = .ok (.bipush 40, 2) := by decide +kernel
theorem dX3_smallest_26 : decode cX3_smallest 26 = .ok (.invokevirtual 107, 3) := by decide +kernel
theorem dX3_smallest_29 : decode cX3_smallest 29 = .ok (.invokevirtual 130, 3) := by decide +kernel
theorem dX3_smallest_32 : decode cX3_smallest 32 = .ok (.goto 8, 3) := by decide +kernel
theorem dX3_smallest_35 : decode cX3_smallest 35 = .ok (.aload_n 0, 1) := by decide +kernel
theorem dX3_smallest_36 : decode cX3_smallest 36 = .ok (.iconst 1, 1) := by decide +kernel
theorem dX3_smallest_37 : decode cX3_smallest 37 = .ok (.invokevirtual 92, 3) := by decide +kernel
theorem dX3_smallest_40 : decode cX3_smallest 40 = .ok (.ireturn, 1) := by decide +kernel
set_option maxRecDepth 20000 in
theorem ggX3_greatest_X3_isRow : GoodIn wsX3_greatest wsX3_isRow := goodIn_r _ [6] (by decide +kernel) (by decide +kernel)
set_option maxRecDepth 20000 in
theorem gX3_greatest_X3_isRow : GoodIn wsX3_greatest (va_wsS RX3 88 yX3_isRow wsX3_isRow) := goodIn_app (goodIn_of _ (by decide +kernel)) ggX3_greatest_X3_isRow
set_option maxRecDepth 20000 in
theorem ggX3_greatest_X3_end : GoodIn wsX3_greatest wsX3_end := goodIn_r _ [10, 2, 19, 20, 21, 22, 23, 24] (by decide +kernel) (by decide +kernel)
set_option maxRecDepth 20000 in
theorem gX3_greatest_X3_end : GoodIn wsX3_greatest (wsV RX3 107 RX3 yX3_end wsX3_end) := goodIn_app (goodIn_of _ (by decide +kernel)) ggX3_greatest_X3_end
set_option maxRecDepth 20000 in
theorem ggX3_greatest_X3_sizeAt : GoodIn wsX3_greatest wsX3_sizeAt := goodIn_r _ [14, 2, 19, 20, 21, 22, 23, 24] (by decide +kernel) (by decide +kernel)
set_option maxRecDepth 20000 in
theorem gX3_greatest_X3_sizeAt : GoodIn wsX3_greatest (wsV RX3 130 RX3 yX3_sizeAt wsX3_sizeAt) := goodIn_app (goodIn_of _ (by decide +kernel)) ggX3_greatest_X3_sizeAt
set_option maxRecDepth 20000 in
theorem ggX3_greatest_X3_no : GoodIn wsX3_greatest wsX3_no := goodIn_r _ [18, 1, 19, 20, 21, 22, 23, 24] (by decide +kernel) (by decide +kernel)
set_option maxRecDepth 20000 in
theorem gX3_greatest_X3_no : GoodIn wsX3_greatest (wsV RX3 92 RX3 yX3_no wsX3_no) := goodIn_app (goodIn_of _ (by decide +kernel)) ggX3_greatest_X3_no
theorem dX3_greatest_0 : decode cX3_greatest 0 = .ok (.aload_n 0, 1) := by decide +kernel
theorem dX3_greatest_1 : decode cX3_greatest 1 = .ok (.iconst 0, 1) := by decide +kernel
theorem dX3_greatest_2 : decode cX3_greatest 2 = .ok (.putfield 16, 3) := by decide +kernel
theorem dX3_greatest_5 : decode cX3_greatest 5 = .ok (.iload_n 1, 1) := by decide +kernel
theorem dX3_greatest_6 : decode cX3_greatest 6 = .ok (.invokestatic 88, 3) := by decide +kernel
theorem dX3_greatest_9 : decode cX3_greatest 9 = .ok (.ifCond .eq 26, 3) := by decide +kernel
theorem dX3_greatest_12 : decode cX3_greatest 12 = .ok (.aload_n 0, 1) := by decide +kernel
theorem dX3_greatest_13 : decode cX3_greatest 13 = .ok (.aload_n 0, 1) := by decide +kernel
theorem dX3_greatest_14 : decode cX3_greatest 14 = .ok (.aload_n 0, 1) := by decide +kernel
theorem dX3_greatest_15 : decode cX3_greatest 15 = .ok (.getfield 9, 3) := by decide +kernel
theorem dX3_greatest_18 : decode cX3_greatest 18 = .ok (.sipush 200, 3) := by decide +kernel
theorem dX3_greatest_21 : decode cX3_greatest 21 = .ok (.iload_n 1, 1) := by decide +kernel
theorem dX3_greatest_22 : decode cX3_greatest 22 = .ok (.iadd, 1) := by decide +kernel
theorem dX3_greatest_23 : decode cX3_greatest 23 = .ok (.iaload, 1) := by decide +kernel
theorem dX3_greatest_24 : decode cX3_greatest 24 = .ok (.bipush 80, 2) := by decide +kernel
theorem dX3_greatest_26 : decode cX3_greatest 26 = .ok (.invokevirtual 107, 3) := by decide +kernel
theorem dX3_greatest_29 : decode cX3_greatest 29 = .ok (.invokevirtual 130, 3) := by decide +kernel
theorem dX3_greatest_32 : decode cX3_greatest 32 = .ok (.goto 8, 3) := by decide +kernel
theorem dX3_greatest_35 : decode cX3_greatest 35 = .ok (.aload_n 0, 1) := by decide +kernel
theorem dX3_greatest_36 : decode cX3_greatest 36 = .ok (.iconst 1, 1) := by decide +kernel
theorem dX3_greatest_37 : decode cX3_greatest 37 = .ok (.invokevirtual 92, 3) := by decide +kernel
theorem dX3_greatest_40 : decode cX3_greatest 40 = .ok (.ireturn, 1) := by decide +kernel
set_option maxRecDepth 20000 in
theorem ggX3_inOrder_X3_isRow : GoodIn wsX3_inOrder wsX3_isRow := goodIn_r _ [6] (by decide +kernel) (by decide +kernel)
set_option maxRecDepth 20000 in
theorem gX3_inOrder_X3_isRow : GoodIn wsX3_inOrder (va_wsS RX3 88 yX3_isRow wsX3_isRow) := goodIn_app (goodIn_of _ (by decide +kernel)) ggX3_inOrder_X3_isRow
set_option maxRecDepth 20000 in
theorem ggX3_inOrder_X3_count : GoodIn wsX3_inOrder wsX3_count := goodIn_r _ [10, 2, 7, 8, 9, 5, 19, 20, 21, 22, 23, 24] (by decide +kernel) (by decide +kernel)
set_option maxRecDepth 20000 in
theorem gX3_inOrder_X3_count : GoodIn wsX3_inOrder (wsV RX3 50 RX3 yX3_count wsX3_count) := goodIn_app (goodIn_of _ (by decide +kernel)) ggX3_inOrder_X3_count
set_option maxRecDepth 20000 in
theorem ggX3_inOrder_X3_no : GoodIn wsX3_inOrder wsX3_no := goodIn_r _ [14, 1, 19, 20, 21, 22, 23, 24] (by decide +kernel) (by decide +kernel)
set_option maxRecDepth 20000 in
theorem gX3_inOrder_X3_no : GoodIn wsX3_inOrder (wsV RX3 92 RX3 yX3_no wsX3_no) := goodIn_app (goodIn_of _ (by decide +kernel)) ggX3_inOrder_X3_no
set_option maxRecDepth 20000 in
theorem ggX3_inOrder_X3_nth : GoodIn wsX3_inOrder wsX3_nth := goodIn_r _ [18, 2, 7, 8, 9, 5, 10, 15, 16, 17, 19, 20, 21, 22, 23, 24] (by decide +kernel) (by decide +kernel)
set_option maxRecDepth 20000 in
theorem gX3_inOrder_X3_nth : GoodIn wsX3_inOrder (wsV RX3 71 RX3 yX3_nth wsX3_nth) := goodIn_app (goodIn_of _ (by decide +kernel)) ggX3_inOrder_X3_nth
theorem dX3_inOrder_0 : decode cX3_inOrder 0 = .ok (.aload_n 0, 1) := by decide +kernel
theorem dX3_inOrder_1 : decode cX3_inOrder 1 = .ok (.iconst 0, 1) := by decide +kernel
theorem dX3_inOrder_2 : decode cX3_inOrder 2 = .ok (.putfield 16, 3) := by decide +kernel
theorem dX3_inOrder_5 : decode cX3_inOrder 5 = .ok (.iload_n 1, 1) := by decide +kernel
theorem dX3_inOrder_6 : decode cX3_inOrder 6 = .ok (.invokestatic 88, 3) := by decide +kernel
theorem dX3_inOrder_9 : decode cX3_inOrder 9 = .ok (.ifCond .eq 25, 3) := by decide +kernel
theorem dX3_inOrder_12 : decode cX3_inOrder 12 = .ok (.iload_n 2, 1) := by decide +kernel
theorem dX3_inOrder_13 : decode cX3_inOrder 13 = .ok (.ifCond .lt 21, 3) := by decide +kernel
theorem dX3_inOrder_16 : decode cX3_inOrder 16 = .ok (.iload_n 2, 1) := by decide +kernel
theorem dX3_inOrder_17 : decode cX3_inOrder 17 = .ok (.aload_n 0, 1) := by decide +kernel
theorem dX3_inOrder_18 : decode cX3_inOrder 18 = .ok (.aload_n 0, 1) := by decide +kernel
theorem dX3_inOrder_19 : decode cX3_inOrder 19 = .ok (.getfield 9, 3) := by decide +kernel
theorem dX3_inOrder_22 : decode cX3_inOrder 22 = .ok (.sipush 200, 3) := by decide +kernel
theorem dX3_inOrder_25 : decode cX3_inOrder 25 = .ok (.iload_n 1, 1) := by decide +kernel
theorem dX3_inOrder_26 : decode cX3_inOrder 26 = .ok (.iadd, 1) := by decide +kernel
theorem dX3_inOrder_27 : decode cX3_inOrder 27 = .ok (.iaload, 1) := by decide +kernel
theorem dX3_inOrder_28 : decode cX3_inOrder 28 = .ok (.invokevirtual 50, 3) := by decide +kernel
theorem dX3_inOrder_31 : decode cX3_inOrder 31 = .ok (.if_icmp .lt 9, 3) := by decide +kernel
theorem dX3_inOrder_34 : decode cX3_inOrder 34 = .ok (.aload_n 0, 1) := by decide +kernel
theorem dX3_inOrder_35 : decode cX3_inOrder 35 = .ok (.iconst 1, 1) := by decide +kernel
theorem dX3_inOrder_36 : decode cX3_inOrder 36 = .ok (.invokevirtual 92, 3) := by decide +kernel
theorem dX3_inOrder_39 : decode cX3_inOrder 39 = .ok (.ireturn, 1) := by decide +kernel
theorem dX3_inOrder_40 : decode cX3_inOrder 40 = .ok (.aload_n 0, 1) := by decide +kernel
theorem dX3_inOrder_41 : decode cX3_inOrder 41 = .ok (.getfield 9, 3) := by decide +kernel
theorem dX3_inOrder_44 : decode cX3_inOrder 44 = .ok (.iconst 0, 1) := by decide +kernel
theorem dX3_inOrder_45 : decode cX3_inOrder 45 = .ok (.aload_n 0, 1) := by decide +kernel
theorem dX3_inOrder_46 : decode cX3_inOrder 46 = .ok (.aload_n 0, 1) := by decide +kernel
theorem dX3_inOrder_47 : decode cX3_inOrder 47 = .ok (.getfield 9, 3) := by decide +kernel
theorem dX3_inOrder_50 : decode cX3_inOrder 50 = .ok (.sipush 200, 3) := by decide +kernel
theorem dX3_inOrder_53 : decode cX3_inOrder 53 = .ok (.iload_n 1, 1) := by decide +kernel
theorem dX3_inOrder_54 : decode cX3_inOrder 54 = .ok (.iadd, 1) := by decide +kernel
theorem dX3_inOrder_55 : decode cX3_inOrder 55 = .ok (.iaload, 1) := by decide +kernel
theorem dX3_inOrder_56 : decode cX3_inOrder 56 = .ok (.iload_n 2, 1) := by decide +kernel
theorem dX3_inOrder_57 : decode cX3_inOrder 57 = .ok (.invokevirtual 71, 3) := by decide +kernel
theorem dX3_inOrder_60 : decode cX3_inOrder 60 = .ok (.iadd, 1) := by decide +kernel
theorem dX3_inOrder_61 : decode cX3_inOrder 61 = .ok (.iaload, 1) := by decide +kernel
theorem dX3_inOrder_62 : decode cX3_inOrder 62 = .ok (.ireturn, 1) := by decide +kernel
set_option maxRecDepth 20000 in
theorem ggX3_leaves_X3_isRow : GoodIn wsX3_leaves wsX3_isRow := goodIn_r _ [6] (by decide +kernel) (by decide +kernel)
set_option maxRecDepth 20000 in
theorem gX3_leaves_X3_isRow : GoodIn wsX3_leaves (va_wsS RX3 88 yX3_isRow wsX3_isRow) := goodIn_app (goodIn_of _ (by decide +kernel)) ggX3_leaves_X3_isRow
set_option maxRecDepth 20000 in
theorem ggX3_leaves_X3_ends : GoodIn wsX3_leaves wsX3_ends := goodIn_r _ [10, 2, 7, 8, 9, 5, 15, 16, 17, 18, 19, 20] (by decide +kernel) (by decide +kernel)
set_option maxRecDepth 20000 in
theorem gX3_leaves_X3_ends : GoodIn wsX3_leaves (wsV RX3 65 RX3 yX3_ends wsX3_ends) := goodIn_app (goodIn_of _ (by decide +kernel)) ggX3_leaves_X3_ends
set_option maxRecDepth 20000 in
theorem ggX3_leaves_X3_no : GoodIn wsX3_leaves wsX3_no := goodIn_r _ [14, 1, 15, 16, 17, 18, 19, 20] (by decide +kernel) (by decide +kernel)
set_option maxRecDepth 20000 in
theorem gX3_leaves_X3_no : GoodIn wsX3_leaves (wsV RX3 92 RX3 yX3_no wsX3_no) := goodIn_app (goodIn_of _ (by decide +kernel)) ggX3_leaves_X3_no
theorem dX3_leaves_0 : decode cX3_leaves 0 = .ok (.aload_n 0, 1) := by decide +kernel
theorem dX3_leaves_1 : decode cX3_leaves 1 = .ok (.iconst 0, 1) := by decide +kernel
theorem dX3_leaves_2 : decode cX3_leaves 2 = .ok (.putfield 16, 3) := by decide +kernel
theorem dX3_leaves_5 : decode cX3_leaves 5 = .ok (.iload_n 1, 1) := by decide +kernel
theorem dX3_leaves_6 : decode cX3_leaves 6 = .ok (.invokestatic 88, 3) := by decide +kernel
theorem dX3_leaves_9 : decode cX3_leaves 9 = .ok (.ifCond .eq 20, 3) := by decide +kernel
theorem dX3_leaves_12 : decode cX3_leaves 12 = .ok (.aload_n 0, 1) := by decide +kernel
theorem dX3_leaves_13 : decode cX3_leaves 13 = .ok (.aload_n 0, 1) := by decide +kernel
theorem dX3_leaves_14 : decode cX3_leaves 14 = .ok (.getfield 9, 3) := by decide +kernel
theorem dX3_leaves_17 : decode cX3_leaves 17 = .ok (.sipush 200, 3) := by decide +kernel
theorem dX3_leaves_20 : decode cX3_leaves 20 = .ok (.iload_n 1, 1) := by decide +kernel
theorem dX3_leaves_21 : decode cX3_leaves 21 = .ok (.iadd, 1) := by decide +kernel
theorem dX3_leaves_22 : decode cX3_leaves 22 = .ok (.iaload, 1) := by decide +kernel
theorem dX3_leaves_23 : decode cX3_leaves 23 = .ok (.invokevirtual 65, 3) := by decide +kernel
theorem dX3_leaves_26 : decode cX3_leaves 26 = .ok (.goto 8, 3) := by decide +kernel
theorem dX3_leaves_29 : decode cX3_leaves 29 = .ok (.aload_n 0, 1) := by decide +kernel
theorem dX3_leaves_30 : decode cX3_leaves 30 = .ok (.iconst 1, 1) := by decide +kernel
theorem dX3_leaves_31 : decode cX3_leaves 31 = .ok (.invokevirtual 92, 3) := by decide +kernel
theorem dX3_leaves_34 : decode cX3_leaves 34 = .ok (.ireturn, 1) := by decide +kernel
set_option maxRecDepth 20000 in
theorem ggX3_has_X3_isRow : GoodIn wsX3_has wsX3_isRow := goodIn_r _ [5] (by decide +kernel) (by decide +kernel)
set_option maxRecDepth 20000 in
theorem gX3_has_X3_isRow : GoodIn wsX3_has (va_wsS RX3 88 yX3_isRow wsX3_isRow) := goodIn_app (goodIn_of _ (by decide +kernel)) ggX3_has_X3_isRow
set_option maxRecDepth 20000 in
theorem ggX3_has_X3_find : GoodIn wsX3_has wsX3_find := goodIn_r _ [9, 10, 15, 16, 17, 18, 19, 20] (by decide +kernel) (by decide +kernel)
set_option maxRecDepth 20000 in
theorem gX3_has_X3_find : GoodIn wsX3_has (wsV RX3 98 RX3 yX3_find wsX3_find) := goodIn_app (goodIn_of _ (by decide +kernel)) ggX3_has_X3_find
set_option maxRecDepth 20000 in
theorem ggX3_has_X3_isNot : GoodIn wsX3_has wsX3_isNot := goodIn_r _ [14, 1, 15, 16, 17, 18, 19, 20] (by decide +kernel) (by decide +kernel)
set_option maxRecDepth 20000 in
theorem gX3_has_X3_isNot : GoodIn wsX3_has (wsV RX3 136 RX3 yX3_isNot wsX3_isNot) := goodIn_app (goodIn_of _ (by decide +kernel)) ggX3_has_X3_isNot
theorem dX3_has_0 : decode cX3_has 0 = .ok (.aload_n 0, 1) := by decide +kernel
theorem dX3_has_1 : decode cX3_has 1 = .ok (.iconst 0, 1) := by decide +kernel
theorem dX3_has_2 : decode cX3_has 2 = .ok (.putfield 16, 3) := by decide +kernel
theorem dX3_has_5 : decode cX3_has 5 = .ok (.iload_n 1, 1) := by decide +kernel
theorem dX3_has_6 : decode cX3_has 6 = .ok (.invokestatic 88, 3) := by decide +kernel
theorem dX3_has_9 : decode cX3_has 9 = .ok (.ifCond .eq 21, 3) := by decide +kernel
theorem dX3_has_12 : decode cX3_has 12 = .ok (.aload_n 0, 1) := by decide +kernel
theorem dX3_has_13 : decode cX3_has 13 = .ok (.iload_n 1, 1) := by decide +kernel
theorem dX3_has_14 : decode cX3_has 14 = .ok (.iload_n 2, 1) := by decide +kernel
theorem dX3_has_15 : decode cX3_has 15 = .ok (.invokevirtual 98, 3) := by decide +kernel
theorem dX3_has_18 : decode cX3_has 18 = .ok (.iconst (-1), 1) := by decide +kernel
theorem dX3_has_19 : decode cX3_has 19 = .ok (.if_icmp .eq 7, 3) := by decide +kernel
theorem dX3_has_22 : decode cX3_has 22 = .ok (.iconst 1, 1) := by decide +kernel
theorem dX3_has_23 : decode cX3_has 23 = .ok (.goto 12, 3) := by decide +kernel
theorem dX3_has_26 : decode cX3_has 26 = .ok (.iconst 0, 1) := by decide +kernel
theorem dX3_has_27 : decode cX3_has 27 = .ok (.goto 8, 3) := by decide +kernel
theorem dX3_has_30 : decode cX3_has 30 = .ok (.aload_n 0, 1) := by decide +kernel
theorem dX3_has_31 : decode cX3_has 31 = .ok (.iconst 1, 1) := by decide +kernel
theorem dX3_has_32 : decode cX3_has 32 = .ok (.invokevirtual 136, 3) := by decide +kernel
theorem dX3_has_35 : decode cX3_has 35 = .ok (.ireturn, 1) := by decide +kernel
set_option maxRecDepth 20000 in
theorem ggX3_smaller_X3_isRow : GoodIn wsX3_smaller wsX3_isRow := goodIn_r _ [6] (by decide +kernel) (by decide +kernel)
set_option maxRecDepth 20000 in
theorem gX3_smaller_X3_isRow : GoodIn wsX3_smaller (va_wsS RX3 88 yX3_isRow wsX3_isRow) := goodIn_app (goodIn_of _ (by decide +kernel)) ggX3_smaller_X3_isRow
set_option maxRecDepth 20000 in
theorem ggX3_smaller_X3_under : GoodIn wsX3_smaller wsX3_under := goodIn_r _ [10, 2, 11, 12, 13, 5, 14, 7, 8, 9, 19, 20, 21, 22, 23, 24] (by decide +kernel) (by decide +kernel)
set_option maxRecDepth 20000 in
theorem gX3_smaller_X3_under : GoodIn wsX3_smaller (wsV RX3 68 RX3 yX3_under wsX3_under) := goodIn_app (goodIn_of _ (by decide +kernel)) ggX3_smaller_X3_under
set_option maxRecDepth 20000 in
theorem ggX3_smaller_X3_no : GoodIn wsX3_smaller wsX3_no := goodIn_r _ [18, 1, 19, 20, 21, 22, 23, 24] (by decide +kernel) (by decide +kernel)
set_option maxRecDepth 20000 in
theorem gX3_smaller_X3_no : GoodIn wsX3_smaller (wsV RX3 92 RX3 yX3_no wsX3_no) := goodIn_app (goodIn_of _ (by decide +kernel)) ggX3_smaller_X3_no
theorem dX3_smaller_0 : decode cX3_smaller 0 = .ok (.aload_n 0, 1) := by decide +kernel
theorem dX3_smaller_1 : decode cX3_smaller 1 = .ok (.iconst 0, 1) := by decide +kernel
theorem dX3_smaller_2 : decode cX3_smaller 2 = .ok (.putfield 16, 3) := by decide +kernel
theorem dX3_smaller_5 : decode cX3_smaller 5 = .ok (.iload_n 1, 1) := by decide +kernel
theorem dX3_smaller_6 : decode cX3_smaller 6 = .ok (.invokestatic 88, 3) := by decide +kernel
theorem dX3_smaller_9 : decode cX3_smaller 9 = .ok (.ifCond .eq 21, 3) := by decide +kernel
theorem dX3_smaller_12 : decode cX3_smaller 12 = .ok (.aload_n 0, 1) := by decide +kernel
theorem dX3_smaller_13 : decode cX3_smaller 13 = .ok (.aload_n 0, 1) := by decide +kernel
theorem dX3_smaller_14 : decode cX3_smaller 14 = .ok (.getfield 9, 3) := by decide +kernel
theorem dX3_smaller_17 : decode cX3_smaller 17 = .ok (.sipush 200, 3) := by decide +kernel
theorem dX3_smaller_20 : decode cX3_smaller 20 = .ok (.iload_n 1, 1) := by decide +kernel
theorem dX3_smaller_21 : decode cX3_smaller 21 = .ok (.iadd, 1) := by decide +kernel
theorem dX3_smaller_22 : decode cX3_smaller 22 = .ok (.iaload, 1) := by decide +kernel
theorem dX3_smaller_23 : decode cX3_smaller 23 = .ok (.iload_n 2, 1) := by decide +kernel
theorem dX3_smaller_24 : decode cX3_smaller 24 = .ok (.invokevirtual 68, 3) := by decide +kernel
theorem dX3_smaller_27 : decode cX3_smaller 27 = .ok (.goto 8, 3) := by decide +kernel
theorem dX3_smaller_30 : decode cX3_smaller 30 = .ok (.aload_n 0, 1) := by decide +kernel
theorem dX3_smaller_31 : decode cX3_smaller 31 = .ok (.iconst 1, 1) := by decide +kernel
theorem dX3_smaller_32 : decode cX3_smaller 32 = .ok (.invokevirtual 92, 3) := by decide +kernel
theorem dX3_smaller_35 : decode cX3_smaller 35 = .ok (.ireturn, 1) := by decide +kernel
set_option maxRecDepth 20000 in
theorem ggX3_asked_X3_isRow : GoodIn wsX3_asked wsX3_isRow := goodIn_r _ [5] (by decide +kernel) (by decide +kernel)
set_option maxRecDepth 20000 in
theorem gX3_asked_X3_isRow : GoodIn wsX3_asked (va_wsS RX3 88 yX3_isRow wsX3_isRow) := goodIn_app (goodIn_of _ (by decide +kernel)) ggX3_asked_X3_isRow
set_option maxRecDepth 20000 in
theorem ggX3_asked_X3_no : GoodIn wsX3_asked wsX3_no := goodIn_r _ [9, 1, 15, 16, 17, 18, 19, 20] (by decide +kernel) (by decide +kernel)
set_option maxRecDepth 20000 in
theorem gX3_asked_X3_no : GoodIn wsX3_asked (wsV RX3 92 RX3 yX3_no wsX3_no) := goodIn_app (goodIn_of _ (by decide +kernel)) ggX3_asked_X3_no
set_option maxRecDepth 20000 in
theorem ggX3_asked_X3_find : GoodIn wsX3_asked wsX3_find := goodIn_r _ [13, 14, 15, 16, 17, 18, 19, 20] (by decide +kernel) (by decide +kernel)
set_option maxRecDepth 20000 in
theorem gX3_asked_X3_find : GoodIn wsX3_asked (wsV RX3 98 RX3 yX3_find wsX3_find) := goodIn_app (goodIn_of _ (by decide +kernel)) ggX3_asked_X3_find
theorem dX3_asked_0 : decode cX3_asked 0 = .ok (.aload_n 0, 1) := by decide +kernel
theorem dX3_asked_1 : decode cX3_asked 1 = .ok (.iconst 0, 1) := by decide +kernel
theorem dX3_asked_2 : decode cX3_asked 2 = .ok (.putfield 16, 3) := by decide +kernel
theorem dX3_asked_5 : decode cX3_asked 5 = .ok (.iload_n 1, 1) := by decide +kernel
theorem dX3_asked_6 : decode cX3_asked 6 = .ok (.invokestatic 88, 3) := by decide +kernel
theorem dX3_asked_9 : decode cX3_asked 9 = .ok (.ifCond .ne 11, 3) := by decide +kernel
theorem dX3_asked_12 : decode cX3_asked 12 = .ok (.aload_n 0, 1) := by decide +kernel
theorem dX3_asked_13 : decode cX3_asked 13 = .ok (.iconst 1, 1) := by decide +kernel
theorem dX3_asked_14 : decode cX3_asked 14 = .ok (.invokevirtual 92, 3) := by decide +kernel
theorem dX3_asked_17 : decode cX3_asked 17 = .ok (.iconst (-1), 1) := by decide +kernel
theorem dX3_asked_18 : decode cX3_asked 18 = .ok (.iadd, 1) := by decide +kernel
theorem dX3_asked_19 : decode cX3_asked 19 = .ok (.ireturn, 1) := by decide +kernel
theorem dX3_asked_20 : decode cX3_asked 20 = .ok (.aload_n 0, 1) := by decide +kernel
theorem dX3_asked_21 : decode cX3_asked 21 = .ok (.iload_n 1, 1) := by decide +kernel
theorem dX3_asked_22 : decode cX3_asked 22 = .ok (.iload_n 2, 1) := by decide +kernel
theorem dX3_asked_23 : decode cX3_asked 23 = .ok (.invokevirtual 98, 3) := by decide +kernel
theorem dX3_asked_26 : decode cX3_asked 26 = .ok (.istore_n 3, 1) := by decide +kernel
theorem dX3_asked_27 : decode cX3_asked 27 = .ok (.iload_n 3, 1) := by decide +kernel
theorem dX3_asked_28 : decode cX3_asked 28 = .ok (.iconst (-1), 1) := by decide +kernel
theorem dX3_asked_29 : decode cX3_asked 29 = .ok (.if_icmp .ne 13, 3) := by decide +kernel
theorem dX3_asked_32 : decode cX3_asked 32 = .ok (.aload_n 0, 1) := by decide +kernel
theorem dX3_asked_33 : decode cX3_asked 33 = .ok (.iconst 2, 1) := by decide +kernel
theorem dX3_asked_34 : decode cX3_asked 34 = .ok (.invokevirtual 92, 3) := by decide +kernel
theorem dX3_asked_37 : decode cX3_asked 37 = .ok (.iconst (-1), 1) := by decide +kernel
theorem dX3_asked_38 : decode cX3_asked 38 = .ok (.iadd, 1) := by decide +kernel
theorem dX3_asked_39 : decode cX3_asked 39 = .ok (.goto 4, 3) := by decide +kernel
theorem dX3_asked_42 : decode cX3_asked 42 = .ok (.iload_n 3, 1) := by decide +kernel
theorem dX3_asked_43 : decode cX3_asked 43 = .ok (.ireturn, 1) := by decide +kernel
set_option maxRecDepth 20000 in
theorem ggX3_depthOf_X3_asked : GoodIn wsX3_depthOf wsX3_asked := goodIn_r _ [5, 6, 7, 8, 4, 9, 10, 11, 12, 13, 14, 15, 16, 17, 18, 23, 24, 25, 26, 27, 28] (by decide +kernel) (by decide +kernel)
set_option maxRecDepth 20000 in
theorem gX3_depthOf_X3_asked : GoodIn wsX3_depthOf (wsV RX3 139 RX3 yX3_asked wsX3_asked) := goodIn_app (goodIn_of _ (by decide +kernel)) ggX3_depthOf_X3_asked
set_option maxRecDepth 20000 in
theorem ggX3_depthOf_X3_deep : GoodIn wsX3_depthOf wsX3_deep := goodIn_r _ [22, 18, 23, 24, 25, 26, 27, 28] (by decide +kernel) (by decide +kernel)
set_option maxRecDepth 20000 in
theorem gX3_depthOf_X3_deep : GoodIn wsX3_depthOf (wsV RX3 81 RX3 yX3_deep wsX3_deep) := goodIn_app (goodIn_of _ (by decide +kernel)) ggX3_depthOf_X3_deep
theorem dX3_depthOf_0 : decode cX3_depthOf 0 = .ok (.aload_n 0, 1) := by decide +kernel
theorem dX3_depthOf_1 : decode cX3_depthOf 1 = .ok (.iload_n 1, 1) := by decide +kernel
theorem dX3_depthOf_2 : decode cX3_depthOf 2 = .ok (.iload_n 2, 1) := by decide +kernel
theorem dX3_depthOf_3 : decode cX3_depthOf 3 = .ok (.invokevirtual 139, 3) := by decide +kernel
theorem dX3_depthOf_6 : decode cX3_depthOf 6 = .ok (.istore_n 3, 1) := by decide +kernel
theorem dX3_depthOf_7 : decode cX3_depthOf 7 = .ok (.iload_n 3, 1) := by decide +kernel
theorem dX3_depthOf_8 : decode cX3_depthOf 8 = .ok (.iconst (-1), 1) := by decide +kernel
theorem dX3_depthOf_9 : decode cX3_depthOf 9 = .ok (.if_icmp .ne 7, 3) := by decide +kernel
theorem dX3_depthOf_12 : decode cX3_depthOf 12 = .ok (.iconst 0, 1) := by decide +kernel
theorem dX3_depthOf_13 : decode cX3_depthOf 13 = .ok (.goto 8, 3) := by decide +kernel
theorem dX3_depthOf_16 : decode cX3_depthOf 16 = .ok (.aload_n 0, 1) := by decide +kernel
theorem dX3_depthOf_17 : decode cX3_depthOf 17 = .ok (.iload_n 3, 1) := by decide +kernel
theorem dX3_depthOf_18 : decode cX3_depthOf 18 = .ok (.invokevirtual 81, 3) := by decide +kernel
theorem dX3_depthOf_21 : decode cX3_depthOf 21 = .ok (.ireturn, 1) := by decide +kernel
set_option maxRecDepth 20000 in
theorem ggX3_above_X3_asked : GoodIn wsX3_above wsX3_asked := goodIn_r _ [6, 7, 8, 9, 5, 10, 11, 12, 13, 14, 15, 16, 17, 18, 1, 23, 24, 25, 26, 27, 28] (by decide +kernel) (by decide +kernel)
set_option maxRecDepth 20000 in
theorem gX3_above_X3_asked : GoodIn wsX3_above (wsV RX3 139 RX3 yX3_asked wsX3_asked) := goodIn_app (goodIn_of _ (by decide +kernel)) ggX3_above_X3_asked
set_option maxRecDepth 20000 in
theorem ggX3_above_X3_sizeAt : GoodIn wsX3_above wsX3_sizeAt := goodIn_r _ [22, 1, 23, 24, 25, 26, 27, 28] (by decide +kernel) (by decide +kernel)
set_option maxRecDepth 20000 in
theorem gX3_above_X3_sizeAt : GoodIn wsX3_above (wsV RX3 130 RX3 yX3_sizeAt wsX3_sizeAt) := goodIn_app (goodIn_of _ (by decide +kernel)) ggX3_above_X3_sizeAt
theorem dX3_above_0 : decode cX3_above 0 = .ok (.aload_n 0, 1) := by decide +kernel
theorem dX3_above_1 : decode cX3_above 1 = .ok (.iload_n 1, 1) := by decide +kernel
theorem dX3_above_2 : decode cX3_above 2 = .ok (.iload_n 2, 1) := by decide +kernel
theorem dX3_above_3 : decode cX3_above 3 = .ok (.invokevirtual 139, 3) := by decide +kernel
theorem dX3_above_6 : decode cX3_above 6 = .ok (.istore_n 3, 1) := by decide +kernel
theorem dX3_above_7 : decode cX3_above 7 = .ok (.iload_n 3, 1) := by decide +kernel
theorem dX3_above_8 : decode cX3_above 8 = .ok (.iconst (-1), 1) := by decide +kernel
theorem dX3_above_9 : decode cX3_above 9 = .ok (.if_icmp .ne 7, 3) := by decide +kernel
theorem dX3_above_12 : decode cX3_above 12 = .ok (.iconst 0, 1) := by decide +kernel
theorem dX3_above_13 : decode cX3_above 13 = .ok (.goto 16, 3) := by decide +kernel
theorem dX3_above_16 : decode cX3_above 16 = .ok (.aload_n 0, 1) := by decide +kernel
theorem dX3_above_17 : decode cX3_above 17 = .ok (.aload_n 0, 1) := by decide +kernel
theorem dX3_above_18 : decode cX3_above 18 = .ok (.getfield 9, 3) := by decide +kernel
theorem dX3_above_21 : decode cX3_above 21 = .ok (.bipush 120, 2) := by decide +kernel
theorem dX3_above_23 : decode cX3_above 23 = .ok (.iload_n 3, 1) := by decide +kernel
theorem dX3_above_24 : decode cX3_above 24 = .ok (.iadd, 1) := by decide +kernel
theorem dX3_above_25 : decode cX3_above 25 = .ok (.iaload, 1) := by decide +kernel
theorem dX3_above_26 : decode cX3_above 26 = .ok (.invokevirtual 130, 3) := by decide +kernel
theorem dX3_above_29 : decode cX3_above 29 = .ok (.ireturn, 1) := by decide +kernel
set_option maxRecDepth 20000 in
theorem ggX3_leftOf_X3_asked : GoodIn wsX3_leftOf wsX3_asked := goodIn_r _ [6, 7, 8, 9, 5, 10, 11, 12, 13, 14, 15, 16, 17, 18, 1, 23, 24, 25, 26, 27, 28] (by decide +kernel) (by decide +kernel)
set_option maxRecDepth 20000 in
theorem gX3_leftOf_X3_asked : GoodIn wsX3_leftOf (wsV RX3 139 RX3 yX3_asked wsX3_asked) := goodIn_app (goodIn_of _ (by decide +kernel)) ggX3_leftOf_X3_asked
set_option maxRecDepth 20000 in
theorem ggX3_leftOf_X3_sizeAt : GoodIn wsX3_leftOf wsX3_sizeAt := goodIn_r _ [22, 1, 23, 24, 25, 26, 27, 28] (by decide +kernel) (by decide +kernel)
set_option maxRecDepth 20000 in
theorem gX3_leftOf_X3_sizeAt : GoodIn wsX3_leftOf (wsV RX3 130 RX3 yX3_sizeAt wsX3_sizeAt) := goodIn_app (goodIn_of _ (by decide +kernel)) ggX3_leftOf_X3_sizeAt
theorem dX3_leftOf_0 : decode cX3_leftOf 0 = .ok (.aload_n 0, 1) := by decide +kernel
theorem dX3_leftOf_1 : decode cX3_leftOf 1 = .ok (.iload_n 1, 1) := by decide +kernel
theorem dX3_leftOf_2 : decode cX3_leftOf 2 = .ok (.iload_n 2, 1) := by decide +kernel
theorem dX3_leftOf_3 : decode cX3_leftOf 3 = .ok (.invokevirtual 139, 3) := by decide +kernel
theorem dX3_leftOf_6 : decode cX3_leftOf 6 = .ok (.istore_n 3, 1) := by decide +kernel
theorem dX3_leftOf_7 : decode cX3_leftOf 7 = .ok (.iload_n 3, 1) := by decide +kernel
theorem dX3_leftOf_8 : decode cX3_leftOf 8 = .ok (.iconst (-1), 1) := by decide +kernel
theorem dX3_leftOf_9 : decode cX3_leftOf 9 = .ok (.if_icmp .ne 7, 3) := by decide +kernel
theorem dX3_leftOf_12 : decode cX3_leftOf 12 = .ok (.iconst 0, 1) := by decide +kernel
theorem dX3_leftOf_13 : decode cX3_leftOf 13 = .ok (.goto 16, 3) := by decide +kernel
theorem dX3_leftOf_16 : decode cX3_leftOf 16 = .ok (.aload_n 0, 1) := by decide +kernel
theorem dX3_leftOf_17 : decode cX3_leftOf 17 = .ok (.aload_n 0, 1) := by decide +kernel
theorem dX3_leftOf_18 : decode cX3_leftOf 18 = .ok (.getfield 9, 3) := by decide +kernel
theorem dX3_leftOf_21 : decode cX3_leftOf 21 = .ok (.bipush 40, 2) := by decide +kernel
theorem dX3_leftOf_23 : decode cX3_leftOf 23 = .ok (.iload_n 3, 1) := by decide +kernel
theorem dX3_leftOf_24 : decode cX3_leftOf 24 = .ok (.iadd, 1) := by decide +kernel
theorem dX3_leftOf_25 : decode cX3_leftOf 25 = .ok (.iaload, 1) := by decide +kernel
theorem dX3_leftOf_26 : decode cX3_leftOf 26 = .ok (.invokevirtual 130, 3) := by decide +kernel
theorem dX3_leftOf_29 : decode cX3_leftOf 29 = .ok (.ireturn, 1) := by decide +kernel
set_option maxRecDepth 20000 in
theorem ggX3_rightOf_X3_asked : GoodIn wsX3_rightOf wsX3_asked := goodIn_r _ [6, 7, 8, 9, 5, 10, 11, 12, 13, 14, 15, 16, 17, 18, 1, 23, 24, 25, 26, 27, 28] (by decide +kernel) (by decide +kernel)
set_option maxRecDepth 20000 in
theorem gX3_rightOf_X3_asked : GoodIn wsX3_rightOf (wsV RX3 139 RX3 yX3_asked wsX3_asked) := goodIn_app (goodIn_of _ (by decide +kernel)) ggX3_rightOf_X3_asked
set_option maxRecDepth 20000 in
theorem ggX3_rightOf_X3_sizeAt : GoodIn wsX3_rightOf wsX3_sizeAt := goodIn_r _ [22, 1, 23, 24, 25, 26, 27, 28] (by decide +kernel) (by decide +kernel)
set_option maxRecDepth 20000 in
theorem gX3_rightOf_X3_sizeAt : GoodIn wsX3_rightOf (wsV RX3 130 RX3 yX3_sizeAt wsX3_sizeAt) := goodIn_app (goodIn_of _ (by decide +kernel)) ggX3_rightOf_X3_sizeAt
theorem dX3_rightOf_0 : decode cX3_rightOf 0 = .ok (.aload_n 0, 1) := by decide +kernel
theorem dX3_rightOf_1 : decode cX3_rightOf 1 = .ok (.iload_n 1, 1) := by decide +kernel
theorem dX3_rightOf_2 : decode cX3_rightOf 2 = .ok (.iload_n 2, 1) := by decide +kernel
theorem dX3_rightOf_3 : decode cX3_rightOf 3 = .ok (.invokevirtual 139, 3) := by decide +kernel
theorem dX3_rightOf_6 : decode cX3_rightOf 6 = .ok (.istore_n 3, 1) := by decide +kernel
theorem dX3_rightOf_7 : decode cX3_rightOf 7 = .ok (.iload_n 3, 1) := by decide +kernel
theorem dX3_rightOf_8 : decode cX3_rightOf 8 = .ok (.iconst (-1), 1) := by decide +kernel
theorem dX3_rightOf_9 : decode cX3_rightOf 9 = .ok (.if_icmp .ne 7, 3) := by decide +kernel
theorem dX3_rightOf_12 : decode cX3_rightOf 12 = .ok (.iconst 0, 1) := by decide +kernel
theorem dX3_rightOf_13 : decode cX3_rightOf 13 = .ok (.goto 16, 3) := by decide +kernel
theorem dX3_rightOf_16 : decode cX3_rightOf 16 = .ok (.aload_n 0, 1) := by decide +kernel
theorem dX3_rightOf_17 : decode cX3_rightOf 17 = .ok (.aload_n 0, 1) := by decide +kernel
theorem dX3_rightOf_18 : decode cX3_rightOf 18 = .ok (.getfield 9, 3) := by decide +kernel
theorem dX3_rightOf_21 : decode cX3_rightOf 21 = .ok (.bipush 80, 2) := by decide +kernel
theorem dX3_rightOf_23 : decode cX3_rightOf 23 = .ok (.iload_n 3, 1) := by decide +kernel
theorem dX3_rightOf_24 : decode cX3_rightOf 24 = .ok (.iadd, 1) := by decide +kernel
theorem dX3_rightOf_25 : decode cX3_rightOf 25 = .ok (.iaload, 1) := by decide +kernel
theorem dX3_rightOf_26 : decode cX3_rightOf 26 = .ok (.invokevirtual 130, 3) := by decide +kernel
theorem dX3_rightOf_29 : decode cX3_rightOf 29 = .ok (.ireturn, 1) := by decide +kernel
set_option maxRecDepth 20000 in
theorem ggX3_below_X3_asked : GoodIn wsX3_below wsX3_asked := goodIn_r _ [5, 6, 7, 8, 4, 9, 10, 11, 12, 13, 14, 15, 16, 17, 18, 23, 24, 25, 26, 27, 28] (by decide +kernel) (by decide +kernel)
set_option maxRecDepth 20000 in
theorem gX3_below_X3_asked : GoodIn wsX3_below (wsV RX3 139 RX3 yX3_asked wsX3_asked) := goodIn_app (goodIn_of _ (by decide +kernel)) ggX3_below_X3_asked
set_option maxRecDepth 20000 in
theorem ggX3_below_X3_count : GoodIn wsX3_below wsX3_count := goodIn_r _ [22, 18, 19, 20, 21, 4, 23, 24, 25, 26, 27, 28] (by decide +kernel) (by decide +kernel)
set_option maxRecDepth 20000 in
theorem gX3_below_X3_count : GoodIn wsX3_below (wsV RX3 50 RX3 yX3_count wsX3_count) := goodIn_app (goodIn_of _ (by decide +kernel)) ggX3_below_X3_count
theorem dX3_below_0 : decode cX3_below 0 = .ok (.aload_n 0, 1) := by decide +kernel
theorem dX3_below_1 : decode cX3_below 1 = .ok (.iload_n 1, 1) := by decide +kernel
theorem dX3_below_2 : decode cX3_below 2 = .ok (.iload_n 2, 1) := by decide +kernel
theorem dX3_below_3 : decode cX3_below 3 = .ok (.invokevirtual 139, 3) := by decide +kernel
theorem dX3_below_6 : decode cX3_below 6 = .ok (.istore_n 3, 1) := by decide +kernel
theorem dX3_below_7 : decode cX3_below 7 = .ok (.iload_n 3, 1) := by decide +kernel
theorem dX3_below_8 : decode cX3_below 8 = .ok (.iconst (-1), 1) := by decide +kernel
theorem dX3_below_9 : decode cX3_below 9 = .ok (.if_icmp .ne 7, 3) := by decide +kernel
theorem dX3_below_12 : decode cX3_below 12 = .ok (.iconst 0, 1) := by decide +kernel
theorem dX3_below_13 : decode cX3_below 13 = .ok (.goto 10, 3) := by decide +kernel
theorem dX3_below_16 : decode cX3_below 16 = .ok (.aload_n 0, 1) := by decide +kernel
theorem dX3_below_17 : decode cX3_below 17 = .ok (.iload_n 3, 1) := by decide +kernel
theorem dX3_below_18 : decode cX3_below 18 = .ok (.invokevirtual 50, 3) := by decide +kernel
theorem dX3_below_21 : decode cX3_below 21 = .ok (.iconst 1, 1) := by decide +kernel
theorem dX3_below_22 : decode cX3_below 22 = .ok (.isub, 1) := by decide +kernel
theorem dX3_below_23 : decode cX3_below 23 = .ok (.ireturn, 1) := by decide +kernel
set_option maxRecDepth 20000 in
theorem ggX3_eaten_X3_asked : GoodIn wsX3_eaten wsX3_asked := goodIn_r _ [6, 7, 8, 9, 5, 10, 11, 12, 13, 14, 15, 16, 17, 18, 1, 19, 20, 21, 22, 23, 24] (by decide +kernel) (by decide +kernel)
set_option maxRecDepth 20000 in
theorem gX3_eaten_X3_asked : GoodIn wsX3_eaten (wsV RX3 139 RX3 yX3_asked wsX3_asked) := goodIn_app (goodIn_of _ (by decide +kernel)) ggX3_eaten_X3_asked
theorem dX3_eaten_0 : decode cX3_eaten 0 = .ok (.aload_n 0, 1) := by decide +kernel
theorem dX3_eaten_1 : decode cX3_eaten 1 = .ok (.iload_n 1, 1) := by decide +kernel
theorem dX3_eaten_2 : decode cX3_eaten 2 = .ok (.iload_n 2, 1) := by decide +kernel
theorem dX3_eaten_3 : decode cX3_eaten 3 = .ok (.invokevirtual 139, 3) := by decide +kernel
theorem dX3_eaten_6 : decode cX3_eaten 6 = .ok (.istore_n 3, 1) := by decide +kernel
theorem dX3_eaten_7 : decode cX3_eaten 7 = .ok (.iload_n 3, 1) := by decide +kernel
theorem dX3_eaten_8 : decode cX3_eaten 8 = .ok (.iconst (-1), 1) := by decide +kernel
theorem dX3_eaten_9 : decode cX3_eaten 9 = .ok (.if_icmp .ne 7, 3) := by decide +kernel
theorem dX3_eaten_12 : decode cX3_eaten 12 = .ok (.iconst 0, 1) := by decide +kernel
theorem dX3_eaten_13 : decode cX3_eaten 13 = .ok (.goto 13, 3) := by decide +kernel
theorem dX3_eaten_16 : decode cX3_eaten 16 = .ok (.aload_n 0, 1) := by decide +kernel
theorem dX3_eaten_17 : decode cX3_eaten 17 = .ok (.getfield 9, 3) := by decide +kernel
theorem dX3_eaten_20 : decode cX3_eaten 20 = .ok (.sipush 160, 3) := by decide +kernel
theorem dX3_eaten_23 : decode cX3_eaten 23 = .ok (.iload_n 3, 1) := by decide +kernel
theorem dX3_eaten_24 : decode cX3_eaten 24 = .ok (.iadd, 1) := by decide +kernel
theorem dX3_eaten_25 : decode cX3_eaten 25 = .ok (.iaload, 1) := by decide +kernel
theorem dX3_eaten_26 : decode cX3_eaten 26 = .ok (.ireturn, 1) := by decide +kernel
set_option maxRecDepth 20000 in
theorem ggX3_liked_X3_count : GoodIn wsX3_liked wsX3_count := goodIn_r _ [6, 1, 2, 3, 4, 5, 15, 16, 17, 18, 19, 20] (by decide +kernel) (by decide +kernel)
set_option maxRecDepth 20000 in
theorem gX3_liked_X3_count : GoodIn wsX3_liked (wsV RX3 50 RX3 yX3_count wsX3_count) := goodIn_app (goodIn_of _ (by decide +kernel)) ggX3_liked_X3_count
set_option maxRecDepth 20000 in
theorem ggX3_liked_X3_nth : GoodIn wsX3_liked wsX3_nth := goodIn_r _ [10, 1, 2, 3, 4, 5, 6, 7, 8, 9, 15, 16, 17, 18, 19, 20] (by decide +kernel) (by decide +kernel)
set_option maxRecDepth 20000 in
theorem gX3_liked_X3_nth : GoodIn wsX3_liked (wsV RX3 71 RX3 yX3_nth wsX3_nth) := goodIn_app (goodIn_of _ (by decide +kernel)) ggX3_liked_X3_nth
set_option maxRecDepth 20000 in
theorem ggX3_liked_X3_sizeAt : GoodIn wsX3_liked wsX3_sizeAt := goodIn_r _ [14, 1, 15, 16, 17, 18, 19, 20] (by decide +kernel) (by decide +kernel)
set_option maxRecDepth 20000 in
theorem gX3_liked_X3_sizeAt : GoodIn wsX3_liked (wsV RX3 130 RX3 yX3_sizeAt wsX3_sizeAt) := goodIn_app (goodIn_of _ (by decide +kernel)) ggX3_liked_X3_sizeAt
theorem dX3_liked_0 : decode cX3_liked 0 = .ok (.iconst (-1), 1) := by decide +kernel
theorem dX3_liked_1 : decode cX3_liked 1 = .ok (.istore_n 2, 1) := by decide +kernel
theorem dX3_liked_2 : decode cX3_liked 2 = .ok (.aload_n 0, 1) := by decide +kernel
theorem dX3_liked_3 : decode cX3_liked 3 = .ok (.aload_n 0, 1) := by decide +kernel
theorem dX3_liked_4 : decode cX3_liked 4 = .ok (.getfield 9, 3) := by decide +kernel
theorem dX3_liked_7 : decode cX3_liked 7 = .ok (.sipush 200, 3) := by decide +kernel
theorem dX3_liked_10 : decode cX3_liked 10 = .ok (.iload_n 1, 1) := by decide +kernel
theorem dX3_liked_11 : decode cX3_liked 11 = .ok (.iadd, 1) := by decide +kernel
theorem dX3_liked_12 : decode cX3_liked 12 = .ok (.iaload, 1) := by decide +kernel
theorem dX3_liked_13 : decode cX3_liked 13 = .ok (.invokevirtual 50, 3) := by decide +kernel
theorem dX3_liked_16 : decode cX3_liked 16 = .ok (.iconst 1, 1) := by decide +kernel
theorem dX3_liked_17 : decode cX3_liked 17 = .ok (.isub, 1) := by decide +kernel
theorem dX3_liked_18 : decode cX3_liked 18 = .ok (.istore_n 3, 1) := by decide +kernel
theorem dX3_liked_19 : decode cX3_liked 19 = .ok (.iload_n 3, 1) := by decide +kernel
theorem dX3_liked_20 : decode cX3_liked 20 = .ok (.ifCond .lt 58, 3) := by decide +kernel
theorem dX3_liked_23 : decode cX3_liked 23 = .ok (.aload_n 0, 1) := by decide +kernel
theorem dX3_liked_24 : decode cX3_liked 24 = .ok (.aload_n 0, 1) := by decide +kernel
theorem dX3_liked_25 : decode cX3_liked 25 = .ok (.getfield 9, 3) := by decide +kernel
theorem dX3_liked_28 : decode cX3_liked 28 = .ok (.sipush 200, 3) := by decide +kernel
theorem dX3_liked_31 : decode cX3_liked 31 = .ok (.iload_n 1, 1) := by decide +kernel
theorem dX3_liked_32 : decode cX3_liked 32 = .ok (.iadd, 1) := by decide +kernel
theorem dX3_liked_33 : decode cX3_liked 33 = .ok (.iaload, 1) := by decide +kernel
theorem dX3_liked_34 : decode cX3_liked 34 = .ok (.iload_n 3, 1) := by decide +kernel
theorem dX3_liked_35 : decode cX3_liked 35 = .ok (.invokevirtual 71, 3) := by decide +kernel
theorem dX3_liked_38 : decode cX3_liked 38 = .ok (.istore 4, 2) := by decide +kernel
theorem dX3_liked_40 : decode cX3_liked 40 = .ok (.iload_n 2, 1) := by decide +kernel
theorem dX3_liked_41 : decode cX3_liked 41 = .ok (.iconst (-1), 1) := by decide +kernel
theorem dX3_liked_42 : decode cX3_liked 42 = .ok (.if_icmp .eq 27, 3) := by decide +kernel
theorem dX3_liked_45 : decode cX3_liked 45 = .ok (.aload_n 0, 1) := by decide +kernel
theorem dX3_liked_46 : decode cX3_liked 46 = .ok (.getfield 9, 3) := by decide +kernel
theorem dX3_liked_49 : decode cX3_liked 49 = .ok (.sipush 160, 3) := by decide +kernel
theorem dX3_liked_52 : decode cX3_liked 52 = .ok (.iload 4, 2) := by decide +kernel
theorem dX3_liked_54 : decode cX3_liked 54 = .ok (.iadd, 1) := by decide +kernel
theorem dX3_liked_55 : decode cX3_liked 55 = .ok (.iaload, 1) := by decide +kernel
theorem dX3_liked_56 : decode cX3_liked 56 = .ok (.aload_n 0, 1) := by decide +kernel
theorem dX3_liked_57 : decode cX3_liked 57 = .ok (.getfield 9, 3) := by decide +kernel
theorem dX3_liked_60 : decode cX3_liked 60 = .ok (.sipush 160, 3) := by decide +kernel
theorem dX3_liked_63 : decode cX3_liked 63 = .ok (.iload_n 2, 1) := by decide +kernel
theorem dX3_liked_64 : decode cX3_liked 64 = .ok (.iadd, 1) := by decide +kernel
theorem dX3_liked_65 : decode cX3_liked 65 = .ok (.iaload, 1) := by decide +kernel
theorem dX3_liked_66 : decode cX3_liked 66 = .ok (.if_icmp .lt 6, 3) := by decide +kernel
theorem dX3_liked_69 : decode cX3_liked 69 = .ok (.iload 4, 2) := by decide +kernel
theorem dX3_liked_71 : decode cX3_liked 71 = .ok (.istore_n 2, 1) := by decide +kernel
theorem dX3_liked_72 : decode cX3_liked 72 = .ok (.iinc 3 (-1), 3) := by decide +kernel
theorem dX3_liked_75 : decode cX3_liked 75 = .ok (.goto (-56), 3) := by decide +kernel
theorem dX3_liked_78 : decode cX3_liked 78 = .ok (.aload_n 0, 1) := by decide +kernel
theorem dX3_liked_79 : decode cX3_liked 79 = .ok (.iload_n 2, 1) := by decide +kernel
theorem dX3_liked_80 : decode cX3_liked 80 = .ok (.invokevirtual 130, 3) := by decide +kernel
theorem dX3_liked_83 : decode cX3_liked 83 = .ok (.ireturn, 1) := by decide +kernel
set_option maxRecDepth 20000 in
theorem ggX3_favourite_X3_isRow : GoodIn wsX3_favourite wsX3_isRow := goodIn_r _ [5] (by decide +kernel) (by decide +kernel)
set_option maxRecDepth 20000 in
theorem gX3_favourite_X3_isRow : GoodIn wsX3_favourite (va_wsS RX3 88 yX3_isRow wsX3_isRow) := goodIn_app (goodIn_of _ (by decide +kernel)) ggX3_favourite_X3_isRow
set_option maxRecDepth 20000 in
theorem ggX3_favourite_X3_liked : GoodIn wsX3_favourite wsX3_liked := goodIn_r _ [9, 10, 11, 12, 13, 4, 14, 15, 16, 17, 18, 19, 20, 21, 22, 27, 28, 29, 30, 31, 32] (by decide +kernel) (by decide +kernel)
set_option maxRecDepth 20000 in
theorem gX3_favourite_X3_liked : GoodIn wsX3_favourite (wsV RX3 142 RX3 yX3_liked wsX3_liked) := goodIn_app (goodIn_of _ (by decide +kernel)) ggX3_favourite_X3_liked
set_option maxRecDepth 20000 in
theorem ggX3_favourite_X3_no : GoodIn wsX3_favourite wsX3_no := goodIn_r _ [26, 1, 27, 28, 29, 30, 31, 32] (by decide +kernel) (by decide +kernel)
set_option maxRecDepth 20000 in
theorem gX3_favourite_X3_no : GoodIn wsX3_favourite (wsV RX3 92 RX3 yX3_no wsX3_no) := goodIn_app (goodIn_of _ (by decide +kernel)) ggX3_favourite_X3_no
theorem dX3_favourite_0 : decode cX3_favourite 0 = .ok (.aload_n 0, 1) := by decide +kernel
theorem dX3_favourite_1 : decode cX3_favourite 1 = .ok (.iconst 0, 1) := by decide +kernel
theorem dX3_favourite_2 : decode cX3_favourite 2 = .ok (.putfield 16, 3) := by decide +kernel
theorem dX3_favourite_5 : decode cX3_favourite 5 = .ok (.iload_n 1, 1) := by decide +kernel
theorem dX3_favourite_6 : decode cX3_favourite 6 = .ok (.invokestatic 88, 3) := by decide +kernel
theorem dX3_favourite_9 : decode cX3_favourite 9 = .ok (.ifCond .eq 11, 3) := by decide +kernel
theorem dX3_favourite_12 : decode cX3_favourite 12 = .ok (.aload_n 0, 1) := by decide +kernel
theorem dX3_favourite_13 : decode cX3_favourite 13 = .ok (.iload_n 1, 1) := by decide +kernel
theorem dX3_favourite_14 : decode cX3_favourite 14 = .ok (.invokevirtual 142, 3) := by decide +kernel
theorem dX3_favourite_17 : decode cX3_favourite 17 = .ok (.goto 8, 3) := by decide +kernel
theorem dX3_favourite_20 : decode cX3_favourite 20 = .ok (.aload_n 0, 1) := by decide +kernel
theorem dX3_favourite_21 : decode cX3_favourite 21 = .ok (.iconst 1, 1) := by decide +kernel
theorem dX3_favourite_22 : decode cX3_favourite 22 = .ok (.invokevirtual 92, 3) := by decide +kernel
theorem dX3_favourite_25 : decode cX3_favourite 25 = .ok (.ireturn, 1) := by decide +kernel
set_option maxRecDepth 20000 in
theorem ggX3_meet_X3_asked : GoodIn wsX3_meet wsX3_asked := goodIn_r _ [6, 7, 8, 9, 5, 10, 11, 12, 13, 14, 15, 16, 17, 18, 1, 23, 24, 25, 26, 27, 28] (by decide +kernel) (by decide +kernel)
set_option maxRecDepth 20000 in
theorem gX3_meet_X3_asked : GoodIn wsX3_meet (wsV RX3 139 RX3 yX3_asked wsX3_asked) := goodIn_app (goodIn_of _ (by decide +kernel)) ggX3_meet_X3_asked
set_option maxRecDepth 20000 in
theorem ggX3_meet_X3_deep : GoodIn wsX3_meet wsX3_deep := goodIn_r _ [22, 1, 23, 24, 25, 26, 27, 28] (by decide +kernel) (by decide +kernel)
set_option maxRecDepth 20000 in
theorem gX3_meet_X3_deep : GoodIn wsX3_meet (wsV RX3 81 RX3 yX3_deep wsX3_deep) := goodIn_app (goodIn_of _ (by decide +kernel)) ggX3_meet_X3_deep
theorem dX3_meet_0 : decode cX3_meet 0 = .ok (.aload_n 0, 1) := by decide +kernel
theorem dX3_meet_1 : decode cX3_meet 1 = .ok (.iload_n 1, 1) := by decide +kernel
theorem dX3_meet_2 : decode cX3_meet 2 = .ok (.iload_n 2, 1) := by decide +kernel
theorem dX3_meet_3 : decode cX3_meet 3 = .ok (.invokevirtual 139, 3) := by decide +kernel
theorem dX3_meet_6 : decode cX3_meet 6 = .ok (.istore 4, 2) := by decide +kernel
theorem dX3_meet_8 : decode cX3_meet 8 = .ok (.iload 4, 2) := by decide +kernel
theorem dX3_meet_10 : decode cX3_meet 10 = .ok (.iconst (-1), 1) := by decide +kernel
theorem dX3_meet_11 : decode cX3_meet 11 = .ok (.if_icmp .ne 7, 3) := by decide +kernel
theorem dX3_meet_14 : decode cX3_meet 14 = .ok (.iconst (-1), 1) := by decide +kernel
theorem dX3_meet_15 : decode cX3_meet 15 = .ok (.goto 9, 3) := by decide +kernel
theorem dX3_meet_18 : decode cX3_meet 18 = .ok (.aload_n 0, 1) := by decide +kernel
theorem dX3_meet_19 : decode cX3_meet 19 = .ok (.iload_n 1, 1) := by decide +kernel
theorem dX3_meet_20 : decode cX3_meet 20 = .ok (.iload_n 3, 1) := by decide +kernel
theorem dX3_meet_21 : decode cX3_meet 21 = .ok (.invokevirtual 139, 3) := by decide +kernel
theorem dX3_meet_24 : decode cX3_meet 24 = .ok (.istore 5, 2) := by decide +kernel
theorem dX3_meet_26 : decode cX3_meet 26 = .ok (.iload 5, 2) := by decide +kernel
theorem dX3_meet_28 : decode cX3_meet 28 = .ok (.iconst (-1), 1) := by decide +kernel
theorem dX3_meet_29 : decode cX3_meet 29 = .ok (.if_icmp .ne 5, 3) := by decide +kernel
theorem dX3_meet_32 : decode cX3_meet 32 = .ok (.iconst 0, 1) := by decide +kernel
theorem dX3_meet_33 : decode cX3_meet 33 = .ok (.ireturn, 1) := by decide +kernel
theorem dX3_meet_34 : decode cX3_meet 34 = .ok (.iload 4, 2) := by decide +kernel
theorem dX3_meet_36 : decode cX3_meet 36 = .ok (.iload 5, 2) := by decide +kernel
theorem dX3_meet_38 : decode cX3_meet 38 = .ok (.if_icmp .eq 48, 3) := by decide +kernel
theorem dX3_meet_41 : decode cX3_meet 41 = .ok (.aload_n 0, 1) := by decide +kernel
theorem dX3_meet_42 : decode cX3_meet 42 = .ok (.iload 4, 2) := by decide +kernel
theorem dX3_meet_44 : decode cX3_meet 44 = .ok (.invokevirtual 81, 3) := by decide +kernel
theorem dX3_meet_47 : decode cX3_meet 47 = .ok (.aload_n 0, 1) := by decide +kernel
theorem dX3_meet_48 : decode cX3_meet 48 = .ok (.iload 5, 2) := by decide +kernel
theorem dX3_meet_50 : decode cX3_meet 50 = .ok (.invokevirtual 81, 3) := by decide +kernel
theorem dX3_meet_53 : decode cX3_meet 53 = .ok (.if_icmp .lt 18, 3) := by decide +kernel
theorem dX3_meet_56 : decode cX3_meet 56 = .ok (.aload_n 0, 1) := by decide +kernel
theorem dX3_meet_57 : decode cX3_meet 57 = .ok (.getfield 9, 3) := by decide +kernel
theorem dX3_meet_60 : decode cX3_meet 60 = .ok (.bipush 120, 2) := by decide +kernel
theorem dX3_meet_62 : decode cX3_meet 62 = .ok (.iload 4, 2) := by decide +kernel
theorem dX3_meet_64 : decode cX3_meet 64 = .ok (.iadd, 1) := by decide +kernel
theorem dX3_meet_65 : decode cX3_meet 65 = .ok (.iaload, 1) := by decide +kernel
theorem dX3_meet_66 : decode cX3_meet 66 = .ok (.istore 4, 2) := by decide +kernel
theorem dX3_meet_68 : decode cX3_meet 68 = .ok (.goto (-34), 3) := by decide +kernel
theorem dX3_meet_71 : decode cX3_meet 71 = .ok (.aload_n 0, 1) := by decide +kernel
theorem dX3_meet_72 : decode cX3_meet 72 = .ok (.getfield 9, 3) := by decide +kernel
theorem dX3_meet_75 : decode cX3_meet 75 = .ok (.bipush 120, 2) := by decide +kernel
theorem dX3_meet_77 : decode cX3_meet 77 = .ok (.iload 5, 2) := by decide +kernel
theorem dX3_meet_79 : decode cX3_meet 79 = .ok (.iadd, 1) := by decide +kernel
theorem dX3_meet_80 : decode cX3_meet 80 = .ok (.iaload, 1) := by decide +kernel
theorem dX3_meet_81 : decode cX3_meet 81 = .ok (.istore 5, 2) := by decide +kernel
theorem dX3_meet_83 : decode cX3_meet 83 = .ok (.goto (-49), 3) := by decide +kernel
theorem dX3_meet_86 : decode cX3_meet 86 = .ok (.aload_n 0, 1) := by decide +kernel
theorem dX3_meet_87 : decode cX3_meet 87 = .ok (.getfield 9, 3) := by decide +kernel
theorem dX3_meet_90 : decode cX3_meet 90 = .ok (.iconst 0, 1) := by decide +kernel
theorem dX3_meet_91 : decode cX3_meet 91 = .ok (.iload 4, 2) := by decide +kernel
theorem dX3_meet_93 : decode cX3_meet 93 = .ok (.iadd, 1) := by decide +kernel
theorem dX3_meet_94 : decode cX3_meet 94 = .ok (.iaload, 1) := by decide +kernel
theorem dX3_meet_95 : decode cX3_meet 95 = .ok (.ireturn, 1) := by decide +kernel
set_option maxRecDepth 20000 in
theorem ggX3_depthBehind_X3_asked : GoodIn wsX3_depthBehind wsX3_asked := goodIn_r _ [5, 6, 7, 8, 4, 9, 10, 11, 12, 13, 14, 15, 16, 17, 18, 57, 58, 59, 60, 61, 62] (by decide +kernel) (by decide +kernel)
set_option maxRecDepth 20000 in
theorem gX3_depthBehind_X3_asked : GoodIn wsX3_depthBehind (wsV RX3 139 RX3 yX3_asked wsX3_asked) := goodIn_app (goodIn_of _ (by decide +kernel)) ggX3_depthBehind_X3_asked
set_option maxRecDepth 20000 in
theorem ggX3_depthBehind_X3_keep : GoodIn wsX3_depthBehind wsX3_keep := goodIn_r _ [22, 18, 23, 24, 25, 26, 27, 28, 29, 57, 58, 59, 60, 61, 62] (by decide +kernel) (by decide +kernel)
set_option maxRecDepth 20000 in
theorem gX3_depthBehind_X3_keep : GoodIn wsX3_depthBehind (wsV RX3 145 RX3 yX3_keep wsX3_keep) := goodIn_app (goodIn_of _ (by decide +kernel)) ggX3_depthBehind_X3_keep
set_option maxRecDepth 20000 in
theorem ggX3_depthBehind_X3_raise : GoodIn wsX3_depthBehind wsX3_raise := goodIn_r _ [33, 18, 34, 35, 36, 4, 37, 38, 39, 40, 41, 28, 42, 43, 44, 45, 46, 47, 48, 57, 58, 59, 60, 61, 62] (by decide +kernel) (by decide +kernel)
set_option maxRecDepth 20000 in
theorem gX3_depthBehind_X3_raise : GoodIn wsX3_depthBehind (wsV RX3 47 RX3 yX3_raise wsX3_raise) := goodIn_app (goodIn_of _ (by decide +kernel)) ggX3_depthBehind_X3_raise
set_option maxRecDepth 20000 in
theorem ggX3_depthBehind_X3_deep : GoodIn wsX3_depthBehind wsX3_deep := goodIn_r _ [52, 18, 57, 58, 59, 60, 61, 62] (by decide +kernel) (by decide +kernel)
set_option maxRecDepth 20000 in
theorem gX3_depthBehind_X3_deep : GoodIn wsX3_depthBehind (wsV RX3 81 RX3 yX3_deep wsX3_deep) := goodIn_app (goodIn_of _ (by decide +kernel)) ggX3_depthBehind_X3_deep
set_option maxRecDepth 20000 in
theorem ggX3_depthBehind_X3_bringBack : GoodIn wsX3_depthBehind wsX3_bringBack := goodIn_r _ [56, 23, 18, 24, 25, 26, 27, 29, 28, 57, 58, 59, 60, 61, 62] (by decide +kernel) (by decide +kernel)
set_option maxRecDepth 20000 in
theorem gX3_depthBehind_X3_bringBack : GoodIn wsX3_depthBehind (wsV RX3 148 RX3 yX3_bringBack wsX3_bringBack) := goodIn_app (goodIn_of _ (by decide +kernel)) ggX3_depthBehind_X3_bringBack
theorem dX3_depthBehind_0 : decode cX3_depthBehind 0 = .ok (.aload_n 0, 1) := by decide +kernel
theorem dX3_depthBehind_1 : decode cX3_depthBehind 1 = .ok (.iload_n 1, 1) := by decide +kernel
theorem dX3_depthBehind_2 : decode cX3_depthBehind 2 = .ok (.iload_n 2, 1) := by decide +kernel
theorem dX3_depthBehind_3 : decode cX3_depthBehind 3 = .ok (.invokevirtual 139, 3) := by decide +kernel
theorem dX3_depthBehind_6 : decode cX3_depthBehind 6 = .ok (.istore 4, 2) := by decide +kernel
theorem dX3_depthBehind_8 : decode cX3_depthBehind 8 = .ok (.iload 4, 2) := by decide +kernel
theorem dX3_depthBehind_10 : decode cX3_depthBehind 10 = .ok (.iconst (-1), 1) := by decide +kernel
theorem dX3_depthBehind_11 : decode cX3_depthBehind 11 = .ok (.if_icmp .ne 7, 3) := by decide +kernel
theorem dX3_depthBehind_14 : decode cX3_depthBehind 14 = .ok (.iconst (-1), 1) := by decide +kernel
theorem dX3_depthBehind_15 : decode cX3_depthBehind 15 = .ok (.goto 9, 3) := by decide +kernel
theorem dX3_depthBehind_18 : decode cX3_depthBehind 18 = .ok (.aload_n 0, 1) := by decide +kernel
theorem dX3_depthBehind_19 : decode cX3_depthBehind 19 = .ok (.iload_n 1, 1) := by decide +kernel
theorem dX3_depthBehind_20 : decode cX3_depthBehind 20 = .ok (.iload_n 3, 1) := by decide +kernel
theorem dX3_depthBehind_21 : decode cX3_depthBehind 21 = .ok (.invokevirtual 139, 3) := by decide +kernel
theorem dX3_depthBehind_24 : decode cX3_depthBehind 24 = .ok (.istore 5, 2) := by decide +kernel
theorem dX3_depthBehind_26 : decode cX3_depthBehind 26 = .ok (.iload 5, 2) := by decide +kernel
theorem dX3_depthBehind_28 : decode cX3_depthBehind 28 = .ok (.iconst (-1), 1) := by decide +kernel
theorem dX3_depthBehind_29 : decode cX3_depthBehind 29 = .ok (.if_icmp .ne 5, 3) := by decide +kernel
theorem dX3_depthBehind_32 : decode cX3_depthBehind 32 = .ok (.iconst 0, 1) := by decide +kernel
theorem dX3_depthBehind_33 : decode cX3_depthBehind 33 = .ok (.ireturn, 1) := by decide +kernel
theorem dX3_depthBehind_34 : decode cX3_depthBehind 34 = .ok (.aload_n 0, 1) := by decide +kernel
theorem dX3_depthBehind_35 : decode cX3_depthBehind 35 = .ok (.invokevirtual 145, 3) := by decide +kernel
theorem dX3_depthBehind_38 : decode cX3_depthBehind 38 = .ok (.aload_n 0, 1) := by decide +kernel
theorem dX3_depthBehind_39 : decode cX3_depthBehind 39 = .ok (.iload 4, 2) := by decide +kernel
theorem dX3_depthBehind_41 : decode cX3_depthBehind 41 = .ok (.invokevirtual 47, 3) := by decide +kernel
theorem dX3_depthBehind_44 : decode cX3_depthBehind 44 = .ok (.aload_n 0, 1) := by decide +kernel
theorem dX3_depthBehind_45 : decode cX3_depthBehind 45 = .ok (.iload 5, 2) := by decide +kernel
theorem dX3_depthBehind_47 : decode cX3_depthBehind 47 = .ok (.invokevirtual 81, 3) := by decide +kernel
theorem dX3_depthBehind_50 : decode cX3_depthBehind 50 = .ok (.istore 6, 2) := by decide +kernel
theorem dX3_depthBehind_52 : decode cX3_depthBehind 52 = .ok (.aload_n 0, 1) := by decide +kernel
theorem dX3_depthBehind_53 : decode cX3_depthBehind 53 = .ok (.invokevirtual 148, 3) := by decide +kernel
theorem dX3_depthBehind_56 : decode cX3_depthBehind 56 = .ok (.iload 6, 2) := by decide +kernel
theorem dX3_depthBehind_58 : decode cX3_depthBehind 58 = .ok (.ireturn, 1) := by decide +kernel
set_option maxRecDepth 20000 in
theorem ggX3_heightBehind_X3_asked : GoodIn wsX3_heightBehind wsX3_asked := goodIn_r _ [5, 6, 7, 8, 4, 9, 10, 11, 12, 13, 14, 15, 16, 17, 18, 61, 62, 63, 64, 65, 66] (by decide +kernel) (by decide +kernel)
set_option maxRecDepth 20000 in
theorem gX3_heightBehind_X3_asked : GoodIn wsX3_heightBehind (wsV RX3 139 RX3 yX3_asked wsX3_asked) := goodIn_app (goodIn_of _ (by decide +kernel)) ggX3_heightBehind_X3_asked
set_option maxRecDepth 20000 in
theorem ggX3_heightBehind_X3_keep : GoodIn wsX3_heightBehind wsX3_keep := goodIn_r _ [22, 18, 23, 24, 25, 26, 27, 28, 29, 61, 62, 63, 64, 65, 66] (by decide +kernel) (by decide +kernel)
set_option maxRecDepth 20000 in
theorem gX3_heightBehind_X3_keep : GoodIn wsX3_heightBehind (wsV RX3 145 RX3 yX3_keep wsX3_keep) := goodIn_app (goodIn_of _ (by decide +kernel)) ggX3_heightBehind_X3_keep
set_option maxRecDepth 20000 in
theorem ggX3_heightBehind_X3_raise : GoodIn wsX3_heightBehind wsX3_raise := goodIn_r _ [33, 18, 34, 35, 36, 4, 37, 38, 39, 40, 41, 28, 42, 43, 44, 45, 46, 47, 48, 61, 62, 63, 64, 65, 66] (by decide +kernel) (by decide +kernel)
set_option maxRecDepth 20000 in
theorem gX3_heightBehind_X3_raise : GoodIn wsX3_heightBehind (wsV RX3 47 RX3 yX3_raise wsX3_raise) := goodIn_app (goodIn_of _ (by decide +kernel)) ggX3_heightBehind_X3_raise
set_option maxRecDepth 20000 in
theorem ggX3_heightBehind_X3_high : GoodIn wsX3_heightBehind wsX3_high := goodIn_r _ [52, 18, 53, 54, 55, 56, 49, 50, 51, 4, 61, 62, 63, 64, 65, 66] (by decide +kernel) (by decide +kernel)
set_option maxRecDepth 20000 in
theorem gX3_heightBehind_X3_high : GoodIn wsX3_heightBehind (wsV RX3 53 RX3 yX3_high wsX3_high) := goodIn_app (goodIn_of _ (by decide +kernel)) ggX3_heightBehind_X3_high
set_option maxRecDepth 20000 in
theorem ggX3_heightBehind_X3_bringBack : GoodIn wsX3_heightBehind wsX3_bringBack := goodIn_r _ [60, 23, 18, 24, 25, 26, 27, 29, 28, 61, 62, 63, 64, 65, 66] (by decide +kernel) (by decide +kernel)
set_option maxRecDepth 20000 in
theorem gX3_heightBehind_X3_bringBack : GoodIn wsX3_heightBehind (wsV RX3 148 RX3 yX3_bringBack wsX3_bringBack) := goodIn_app (goodIn_of _ (by decide +kernel)) ggX3_heightBehind_X3_bringBack
theorem dX3_heightBehind_0 : decode cX3_heightBehind 0 = .ok (.aload_n 0, 1) := by decide +kernel
theorem dX3_heightBehind_1 : decode cX3_heightBehind 1 = .ok (.iload_n 1, 1) := by decide +kernel
theorem dX3_heightBehind_2 : decode cX3_heightBehind 2 = .ok (.iload_n 2, 1) := by decide +kernel
theorem dX3_heightBehind_3 : decode cX3_heightBehind 3 = .ok (.invokevirtual 139, 3) := by decide +kernel
theorem dX3_heightBehind_6 : decode cX3_heightBehind 6 = .ok (.istore_n 3, 1) := by decide +kernel
theorem dX3_heightBehind_7 : decode cX3_heightBehind 7 = .ok (.iload_n 3, 1) := by decide +kernel
theorem dX3_heightBehind_8 : decode cX3_heightBehind 8 = .ok (.iconst (-1), 1) := by decide +kernel
theorem dX3_heightBehind_9 : decode cX3_heightBehind 9 = .ok (.if_icmp .ne 5, 3) := by decide +kernel
theorem dX3_heightBehind_12 : decode cX3_heightBehind 12 = .ok (.iconst 0, 1) := by decide +kernel
theorem dX3_heightBehind_13 : decode cX3_heightBehind 13 = .ok (.ireturn, 1) := by decide +kernel
theorem dX3_heightBehind_14 : decode cX3_heightBehind 14 = .ok (.aload_n 0, 1) := by decide +kernel
theorem dX3_heightBehind_15 : decode cX3_heightBehind 15 = .ok (.invokevirtual 145, 3) := by decide +kernel
theorem dX3_heightBehind_18 : decode cX3_heightBehind 18 = .ok (.aload_n 0, 1) := by decide +kernel
theorem dX3_heightBehind_19 : decode cX3_heightBehind 19 = .ok (.iload_n 3, 1) := by decide +kernel
theorem dX3_heightBehind_20 : decode cX3_heightBehind 20 = .ok (.invokevirtual 47, 3) := by decide +kernel
theorem dX3_heightBehind_23 : decode cX3_heightBehind 23 = .ok (.aload_n 0, 1) := by decide +kernel
theorem dX3_heightBehind_24 : decode cX3_heightBehind 24 = .ok (.iload_n 3, 1) := by decide +kernel
theorem dX3_heightBehind_25 : decode cX3_heightBehind 25 = .ok (.invokevirtual 53, 3) := by decide +kernel
theorem dX3_heightBehind_28 : decode cX3_heightBehind 28 = .ok (.istore 4, 2) := by decide +kernel
theorem dX3_heightBehind_30 : decode cX3_heightBehind 30 = .ok (.aload_n 0, 1) := by decide +kernel
theorem dX3_heightBehind_31 : decode cX3_heightBehind 31 = .ok (.invokevirtual 148, 3) := by decide +kernel
theorem dX3_heightBehind_34 : decode cX3_heightBehind 34 = .ok (.iload 4, 2) := by decide +kernel
theorem dX3_heightBehind_36 : decode cX3_heightBehind 36 = .ok (.ireturn, 1) := by decide +kernel
set_option maxRecDepth 20000 in
theorem ggX3_best_X3_count : GoodIn wsX3_best wsX3_count := goodIn_r _ [6, 1, 2, 3, 4, 5, 53, 54, 55, 56, 57, 58] (by decide +kernel) (by decide +kernel)
set_option maxRecDepth 20000 in
theorem gX3_best_X3_count : GoodIn wsX3_best (wsV RX3 50 RX3 yX3_count wsX3_count) := goodIn_app (goodIn_of _ (by decide +kernel)) ggX3_best_X3_count
set_option maxRecDepth 20000 in
theorem ggX3_best_X3_nth : GoodIn wsX3_best wsX3_nth := goodIn_r _ [10, 1, 2, 3, 4, 5, 6, 7, 8, 9, 53, 54, 55, 56, 57, 58] (by decide +kernel) (by decide +kernel)
set_option maxRecDepth 20000 in
theorem gX3_best_X3_nth : GoodIn wsX3_best (wsV RX3 71 RX3 yX3_nth wsX3_nth) := goodIn_app (goodIn_of _ (by decide +kernel)) ggX3_best_X3_nth
set_option maxRecDepth 20000 in
theorem ggX3_best_X3_keep : GoodIn wsX3_best wsX3_keep := goodIn_r _ [14, 1, 15, 16, 17, 18, 19, 20, 21, 53, 54, 55, 56, 57, 58] (by decide +kernel) (by decide +kernel)
set_option maxRecDepth 20000 in
theorem gX3_best_X3_keep : GoodIn wsX3_best (wsV RX3 145 RX3 yX3_keep wsX3_keep) := goodIn_app (goodIn_of _ (by decide +kernel)) ggX3_best_X3_keep
set_option maxRecDepth 20000 in
theorem ggX3_best_X3_raise : GoodIn wsX3_best wsX3_raise := goodIn_r _ [25, 1, 26, 27, 28, 5, 29, 30, 31, 32, 33, 20, 34, 35, 36, 37, 38, 39, 40, 53, 54, 55, 56, 57, 58] (by decide +kernel) (by decide +kernel)
set_option maxRecDepth 20000 in
theorem gX3_best_X3_raise : GoodIn wsX3_best (wsV RX3 47 RX3 yX3_raise wsX3_raise) := goodIn_app (goodIn_of _ (by decide +kernel)) ggX3_best_X3_raise
set_option maxRecDepth 20000 in
theorem ggX3_best_X3_depthsOf : GoodIn wsX3_best wsX3_depthsOf := goodIn_r _ [44, 1, 41, 42, 43, 5, 53, 54, 55, 56, 57, 58] (by decide +kernel) (by decide +kernel)
set_option maxRecDepth 20000 in
theorem gX3_best_X3_depthsOf : GoodIn wsX3_best (wsV RX3 62 RX3 yX3_depthsOf wsX3_depthsOf) := goodIn_app (goodIn_of _ (by decide +kernel)) ggX3_best_X3_depthsOf
set_option maxRecDepth 20000 in
theorem ggX3_best_X3_bringBack : GoodIn wsX3_best wsX3_bringBack := goodIn_r _ [48, 15, 1, 16, 17, 18, 19, 21, 20, 53, 54, 55, 56, 57, 58] (by decide +kernel) (by decide +kernel)
set_option maxRecDepth 20000 in
theorem gX3_best_X3_bringBack : GoodIn wsX3_best (wsV RX3 148 RX3 yX3_bringBack wsX3_bringBack) := goodIn_app (goodIn_of _ (by decide +kernel)) ggX3_best_X3_bringBack
set_option maxRecDepth 20000 in
theorem ggX3_best_X3_sizeAt : GoodIn wsX3_best wsX3_sizeAt := goodIn_r _ [52, 1, 53, 54, 55, 56, 57, 58] (by decide +kernel) (by decide +kernel)
set_option maxRecDepth 20000 in
theorem gX3_best_X3_sizeAt : GoodIn wsX3_best (wsV RX3 130 RX3 yX3_sizeAt wsX3_sizeAt) := goodIn_app (goodIn_of _ (by decide +kernel)) ggX3_best_X3_sizeAt
theorem dX3_best_0 : decode cX3_best 0 = .ok (.iconst (-1), 1) := by decide +kernel
theorem dX3_best_1 : decode cX3_best 1 = .ok (.istore_n 2, 1) := by decide +kernel
theorem dX3_best_2 : decode cX3_best 2 = .ok (.iconst 0, 1) := by decide +kernel
theorem dX3_best_3 : decode cX3_best 3 = .ok (.istore_n 3, 1) := by decide +kernel
theorem dX3_best_4 : decode cX3_best 4 = .ok (.iconst 0, 1) := by decide +kernel
theorem dX3_best_5 : decode cX3_best 5 = .ok (.istore 4, 2) := by decide +kernel
theorem dX3_best_7 : decode cX3_best 7 = .ok (.iload 4, 2) := by decide +kernel
theorem dX3_best_9 : decode cX3_best 9 = .ok (.aload_n 0, 1) := by decide +kernel
theorem dX3_best_10 : decode cX3_best 10 = .ok (.aload_n 0, 1) := by decide +kernel
theorem dX3_best_11 : decode cX3_best 11 = .ok (.getfield 9, 3) := by decide +kernel
theorem dX3_best_14 : decode cX3_best 14 = .ok (.sipush 200, 3) := by decide +kernel
theorem dX3_best_17 : decode cX3_best 17 = .ok (.iload_n 1, 1) := by decide +kernel
theorem dX3_best_18 : decode cX3_best 18 = .ok (.iadd, 1) := by decide +kernel
theorem dX3_best_19 : decode cX3_best 19 = .ok (.iaload, 1) := by decide +kernel
theorem dX3_best_20 : decode cX3_best 20 = .ok (.invokevirtual 50, 3) := by decide +kernel
theorem dX3_best_23 : decode cX3_best 23 = .ok (.if_icmp .ge 70, 3) := by decide +kernel
theorem dX3_best_26 : decode cX3_best 26 = .ok (.aload_n 0, 1) := by decide +kernel
theorem dX3_best_27 : decode cX3_best 27 = .ok (.aload_n 0, 1) := by decide +kernel
theorem dX3_best_28 : decode cX3_best 28 = .ok (.getfield 9, 3) := by decide +kernel
theorem dX3_best_31 : decode cX3_best 31 = .ok (.sipush 200, 3) := by decide +kernel
theorem dX3_best_34 : decode cX3_best 34 = .ok (.iload_n 1, 1) := by decide +kernel
theorem dX3_best_35 : decode cX3_best 35 = .ok (.iadd, 1) := by decide +kernel
theorem dX3_best_36 : decode cX3_best 36 = .ok (.iaload, 1) := by decide +kernel
theorem dX3_best_37 : decode cX3_best 37 = .ok (.iload 4, 2) := by decide +kernel
theorem dX3_best_39 : decode cX3_best 39 = .ok (.invokevirtual 71, 3) := by decide +kernel
theorem dX3_best_42 : decode cX3_best 42 = .ok (.istore 5, 2) := by decide +kernel
theorem dX3_best_44 : decode cX3_best 44 = .ok (.aload_n 0, 1) := by decide +kernel
theorem dX3_best_45 : decode cX3_best 45 = .ok (.invokevirtual 145, 3) := by decide +kernel
theorem dX3_best_48 : decode cX3_best 48 = .ok (.aload_n 0, 1) := by decide +kernel
theorem dX3_best_49 : decode cX3_best 49 = .ok (.iload 5, 2) := by decide +kernel
theorem dX3_best_51 : decode cX3_best 51 = .ok (.invokevirtual 47, 3) := by decide +kernel
theorem dX3_best_54 : decode cX3_best 54 = .ok (.aload_n 0, 1) := by decide +kernel
theorem dX3_best_55 : decode cX3_best 55 = .ok (.iload 5, 2) := by decide +kernel
theorem dX3_best_57 : decode cX3_best 57 = .ok (.iconst 0, 1) := by decide +kernel
theorem dX3_best_58 : decode cX3_best 58 = .ok (.invokevirtual 62, 3) := by decide +kernel
theorem dX3_best_61 : decode cX3_best 61 = .ok (.istore 6, 2) := by decide +kernel
theorem dX3_best_63 : decode cX3_best 63 = .ok (.aload_n 0, 1) := by decide +kernel
theorem dX3_best_64 : decode cX3_best 64 = .ok (.invokevirtual 148, 3) := by decide +kernel
theorem dX3_best_67 : decode cX3_best 67 = .ok (.iload_n 2, 1) := by decide +kernel
theorem dX3_best_68 : decode cX3_best 68 = .ok (.iconst (-1), 1) := by decide +kernel
theorem dX3_best_69 : decode cX3_best 69 = .ok (.if_icmp .eq 12, 3) := by decide +kernel
theorem dX3_best_72 : decode cX3_best 72 = .ok (.iload 6, 2) := by decide +kernel
theorem dX3_best_74 : decode cX3_best 74 = .ok (.iload_n 3, 1) := by decide +kernel
theorem dX3_best_75 : decode cX3_best 75 = .ok (.if_icmp .lt 6, 3) := by decide +kernel
theorem dX3_best_78 : decode cX3_best 78 = .ok (.goto 9, 3) := by decide +kernel
theorem dX3_best_81 : decode cX3_best 81 = .ok (.iload 5, 2) := by decide +kernel
theorem dX3_best_83 : decode cX3_best 83 = .ok (.istore_n 2, 1) := by decide +kernel
theorem dX3_best_84 : decode cX3_best 84 = .ok (.iload 6, 2) := by decide +kernel
theorem dX3_best_86 : decode cX3_best 86 = .ok (.istore_n 3, 1) := by decide +kernel
theorem dX3_best_87 : decode cX3_best 87 = .ok (.iinc 4 1, 3) := by decide +kernel
theorem dX3_best_90 : decode cX3_best 90 = .ok (.goto (-83), 3) := by decide +kernel
theorem dX3_best_93 : decode cX3_best 93 = .ok (.aload_n 0, 1) := by decide +kernel
theorem dX3_best_94 : decode cX3_best 94 = .ok (.iload_n 2, 1) := by decide +kernel
theorem dX3_best_95 : decode cX3_best 95 = .ok (.invokevirtual 130, 3) := by decide +kernel
theorem dX3_best_98 : decode cX3_best 98 = .ok (.ireturn, 1) := by decide +kernel
set_option maxRecDepth 20000 in
theorem ggX3_bestToEat_X3_isRow : GoodIn wsX3_bestToEat wsX3_isRow := goodIn_r _ [5] (by decide +kernel) (by decide +kernel)
set_option maxRecDepth 20000 in
theorem gX3_bestToEat_X3_isRow : GoodIn wsX3_bestToEat (va_wsS RX3 88 yX3_isRow wsX3_isRow) := goodIn_app (goodIn_of _ (by decide +kernel)) ggX3_bestToEat_X3_isRow
set_option maxRecDepth 20000 in
theorem ggX3_bestToEat_X3_best : GoodIn wsX3_bestToEat wsX3_best := goodIn_r _ [9, 10, 11, 12, 13, 4, 14, 15, 16, 17, 18, 19, 20, 21, 22, 23, 24, 25, 26, 27, 28, 29, 30, 31, 32, 33, 34, 35, 36, 37, 38, 39, 40, 41, 42, 43, 44, 45, 46, 47, 48, 49, 50, 51, 52, 53, 54, 55, 56, 57, 58, 59, 60, 65, 66, 67, 68, 69, 70] (by decide +kernel) (by decide +kernel)
set_option maxRecDepth 20000 in
theorem gX3_bestToEat_X3_best : GoodIn wsX3_bestToEat (wsV RX3 151 RX3 yX3_best wsX3_best) := goodIn_app (goodIn_of _ (by decide +kernel)) ggX3_bestToEat_X3_best
set_option maxRecDepth 20000 in
theorem ggX3_bestToEat_X3_no : GoodIn wsX3_bestToEat wsX3_no := goodIn_r _ [64, 1, 65, 66, 67, 68, 69, 70] (by decide +kernel) (by decide +kernel)
set_option maxRecDepth 20000 in
theorem gX3_bestToEat_X3_no : GoodIn wsX3_bestToEat (wsV RX3 92 RX3 yX3_no wsX3_no) := goodIn_app (goodIn_of _ (by decide +kernel)) ggX3_bestToEat_X3_no
theorem dX3_bestToEat_0 : decode cX3_bestToEat 0 = .ok (.aload_n 0, 1) := by decide +kernel
theorem dX3_bestToEat_1 : decode cX3_bestToEat 1 = .ok (.iconst 0, 1) := by decide +kernel
theorem dX3_bestToEat_2 : decode cX3_bestToEat 2 = .ok (.putfield 16, 3) := by decide +kernel
theorem dX3_bestToEat_5 : decode cX3_bestToEat 5 = .ok (.iload_n 1, 1) := by decide +kernel
theorem dX3_bestToEat_6 : decode cX3_bestToEat 6 = .ok (.invokestatic 88, 3) := by decide +kernel
theorem dX3_bestToEat_9 : decode cX3_bestToEat 9 = .ok (.ifCond .eq 11, 3) := by decide +kernel
theorem dX3_bestToEat_12 : decode cX3_bestToEat 12 = .ok (.aload_n 0, 1) := by decide +kernel
theorem dX3_bestToEat_13 : decode cX3_bestToEat 13 = .ok (.iload_n 1, 1) := by decide +kernel
theorem dX3_bestToEat_14 : decode cX3_bestToEat 14 = .ok (.invokevirtual 151, 3) := by decide +kernel
theorem dX3_bestToEat_17 : decode cX3_bestToEat 17 = .ok (.goto 8, 3) := by decide +kernel
theorem dX3_bestToEat_20 : decode cX3_bestToEat 20 = .ok (.aload_n 0, 1) := by decide +kernel
theorem dX3_bestToEat_21 : decode cX3_bestToEat 21 = .ok (.iconst 1, 1) := by decide +kernel
theorem dX3_bestToEat_22 : decode cX3_bestToEat 22 = .ok (.invokevirtual 92, 3) := by decide +kernel
theorem dX3_bestToEat_25 : decode cX3_bestToEat 25 = .ok (.ireturn, 1) := by decide +kernel
set_option maxRecDepth 20000 in
theorem ggX3_plantDepth_X3_isRow : GoodIn wsX3_plantDepth wsX3_isRow := goodIn_r _ [5] (by decide +kernel) (by decide +kernel)
set_option maxRecDepth 20000 in
theorem gX3_plantDepth_X3_isRow : GoodIn wsX3_plantDepth (va_wsS RX3 88 yX3_isRow wsX3_isRow) := goodIn_app (goodIn_of _ (by decide +kernel)) ggX3_plantDepth_X3_isRow
set_option maxRecDepth 20000 in
theorem ggX3_plantDepth_X3_no : GoodIn wsX3_plantDepth wsX3_no := goodIn_r _ [9, 1, 18, 19, 20, 21, 22, 23] (by decide +kernel) (by decide +kernel)
set_option maxRecDepth 20000 in
theorem gX3_plantDepth_X3_no : GoodIn wsX3_plantDepth (wsV RX3 92 RX3 yX3_no wsX3_no) := goodIn_app (goodIn_of _ (by decide +kernel)) ggX3_plantDepth_X3_no
set_option maxRecDepth 20000 in
theorem ggX3_plantDepth_X3_isSize : GoodIn wsX3_plantDepth wsX3_isSize := goodIn_r _ [12] (by decide +kernel) (by decide +kernel)
set_option maxRecDepth 20000 in
theorem gX3_plantDepth_X3_isSize : GoodIn wsX3_plantDepth (va_wsS RX3 95 yX3_isSize wsX3_isSize) := goodIn_app (goodIn_of _ (by decide +kernel)) ggX3_plantDepth_X3_isSize
set_option maxRecDepth 20000 in
theorem ggX3_plantDepth_X3_plantDeep : GoodIn wsX3_plantDepth wsX3_plantDeep := goodIn_r _ [16, 17, 18, 19, 20, 21, 22, 23] (by decide +kernel) (by decide +kernel)
set_option maxRecDepth 20000 in
theorem gX3_plantDepth_X3_plantDeep : GoodIn wsX3_plantDepth (wsV RX3 154 RX3 yX3_plantDeep wsX3_plantDeep) := goodIn_app (goodIn_of _ (by decide +kernel)) ggX3_plantDepth_X3_plantDeep
theorem dX3_plantDepth_0 : decode cX3_plantDepth 0 = .ok (.aload_n 0, 1) := by decide +kernel
theorem dX3_plantDepth_1 : decode cX3_plantDepth 1 = .ok (.iconst 0, 1) := by decide +kernel
theorem dX3_plantDepth_2 : decode cX3_plantDepth 2 = .ok (.putfield 16, 3) := by decide +kernel
theorem dX3_plantDepth_5 : decode cX3_plantDepth 5 = .ok (.iload_n 1, 1) := by decide +kernel
theorem dX3_plantDepth_6 : decode cX3_plantDepth 6 = .ok (.invokestatic 88, 3) := by decide +kernel
theorem dX3_plantDepth_9 : decode cX3_plantDepth 9 = .ok (.ifCond .ne 9, 3) := by decide +kernel
theorem dX3_plantDepth_12 : decode cX3_plantDepth 12 = .ok (.aload_n 0, 1) := by decide +kernel
theorem dX3_plantDepth_13 : decode cX3_plantDepth 13 = .ok (.iconst 1, 1) := by decide +kernel
theorem dX3_plantDepth_14 : decode cX3_plantDepth 14 = .ok (.invokevirtual 92, 3) := by decide +kernel
theorem dX3_plantDepth_17 : decode cX3_plantDepth 17 = .ok (.ireturn, 1) := by decide +kernel
theorem dX3_plantDepth_18 : decode cX3_plantDepth 18 = .ok (.iload_n 2, 1) := by decide +kernel
theorem dX3_plantDepth_19 : decode cX3_plantDepth 19 = .ok (.invokestatic 95, 3) := by decide +kernel
theorem dX3_plantDepth_22 : decode cX3_plantDepth 22 = .ok (.ifCond .eq 12, 3) := by decide +kernel
theorem dX3_plantDepth_25 : decode cX3_plantDepth 25 = .ok (.aload_n 0, 1) := by decide +kernel
theorem dX3_plantDepth_26 : decode cX3_plantDepth 26 = .ok (.iload_n 1, 1) := by decide +kernel
theorem dX3_plantDepth_27 : decode cX3_plantDepth 27 = .ok (.iload_n 2, 1) := by decide +kernel
theorem dX3_plantDepth_28 : decode cX3_plantDepth 28 = .ok (.invokevirtual 154, 3) := by decide +kernel
theorem dX3_plantDepth_31 : decode cX3_plantDepth 31 = .ok (.goto 8, 3) := by decide +kernel
theorem dX3_plantDepth_34 : decode cX3_plantDepth 34 = .ok (.aload_n 0, 1) := by decide +kernel
theorem dX3_plantDepth_35 : decode cX3_plantDepth 35 = .ok (.iconst 2, 1) := by decide +kernel
theorem dX3_plantDepth_36 : decode cX3_plantDepth 36 = .ok (.invokevirtual 92, 3) := by decide +kernel
theorem dX3_plantDepth_39 : decode cX3_plantDepth 39 = .ok (.ireturn, 1) := by decide +kernel
set_option maxRecDepth 20000 in
theorem ggX3_canJoin_X3_isRow : GoodIn wsX3_canJoin wsX3_isRow := goodIn_r _ [5] (by decide +kernel) (by decide +kernel)
set_option maxRecDepth 20000 in
theorem gX3_canJoin_X3_isRow : GoodIn wsX3_canJoin (va_wsS RX3 88 yX3_isRow wsX3_isRow) := goodIn_app (goodIn_of _ (by decide +kernel)) ggX3_canJoin_X3_isRow
set_option maxRecDepth 20000 in
theorem ggX3_canJoin_X3_fits : GoodIn wsX3_canJoin wsX3_fits := goodIn_r _ [9, 10, 11, 12, 13, 4, 14, 19, 20, 21, 22, 23, 24] (by decide +kernel) (by decide +kernel)
set_option maxRecDepth 20000 in
theorem gX3_canJoin_X3_fits : GoodIn wsX3_canJoin (wsV RX3 123 RX3 yX3_fits wsX3_fits) := goodIn_app (goodIn_of _ (by decide +kernel)) ggX3_canJoin_X3_fits
set_option maxRecDepth 20000 in
theorem ggX3_canJoin_X3_isNot : GoodIn wsX3_canJoin wsX3_isNot := goodIn_r _ [18, 1, 19, 20, 21, 22, 23, 24] (by decide +kernel) (by decide +kernel)
set_option maxRecDepth 20000 in
theorem gX3_canJoin_X3_isNot : GoodIn wsX3_canJoin (wsV RX3 136 RX3 yX3_isNot wsX3_isNot) := goodIn_app (goodIn_of _ (by decide +kernel)) ggX3_canJoin_X3_isNot
theorem dX3_canJoin_0 : decode cX3_canJoin 0 = .ok (.aload_n 0, 1) := by decide +kernel
theorem dX3_canJoin_1 : decode cX3_canJoin 1 = .ok (.iconst 0, 1) := by decide +kernel
theorem dX3_canJoin_2 : decode cX3_canJoin 2 = .ok (.putfield 16, 3) := by decide +kernel
theorem dX3_canJoin_5 : decode cX3_canJoin 5 = .ok (.iload_n 1, 1) := by decide +kernel
theorem dX3_canJoin_6 : decode cX3_canJoin 6 = .ok (.invokestatic 88, 3) := by decide +kernel
theorem dX3_canJoin_9 : decode cX3_canJoin 9 = .ok (.ifCond .eq 19, 3) := by decide +kernel
theorem dX3_canJoin_12 : decode cX3_canJoin 12 = .ok (.iload_n 2, 1) := by decide +kernel
theorem dX3_canJoin_13 : decode cX3_canJoin 13 = .ok (.invokestatic 88, 3) := by decide +kernel
theorem dX3_canJoin_16 : decode cX3_canJoin 16 = .ok (.ifCond .eq 12, 3) := by decide +kernel
theorem dX3_canJoin_19 : decode cX3_canJoin 19 = .ok (.aload_n 0, 1) := by decide +kernel
theorem dX3_canJoin_20 : decode cX3_canJoin 20 = .ok (.iload_n 1, 1) := by decide +kernel
theorem dX3_canJoin_21 : decode cX3_canJoin 21 = .ok (.iload_n 2, 1) := by decide +kernel
theorem dX3_canJoin_22 : decode cX3_canJoin 22 = .ok (.invokevirtual 123, 3) := by decide +kernel
theorem dX3_canJoin_25 : decode cX3_canJoin 25 = .ok (.goto 8, 3) := by decide +kernel
theorem dX3_canJoin_28 : decode cX3_canJoin 28 = .ok (.aload_n 0, 1) := by decide +kernel
theorem dX3_canJoin_29 : decode cX3_canJoin 29 = .ok (.iconst 1, 1) := by decide +kernel
theorem dX3_canJoin_30 : decode cX3_canJoin 30 = .ok (.invokevirtual 136, 3) := by decide +kernel
theorem dX3_canJoin_33 : decode cX3_canJoin 33 = .ok (.ireturn, 1) := by decide +kernel
set_option maxRecDepth 20000 in
theorem ggX3_meanDepth_X3_isRow : GoodIn wsX3_meanDepth wsX3_isRow := goodIn_r _ [6] (by decide +kernel) (by decide +kernel)
set_option maxRecDepth 20000 in
theorem gX3_meanDepth_X3_isRow : GoodIn wsX3_meanDepth (va_wsS RX3 88 yX3_isRow wsX3_isRow) := goodIn_app (goodIn_of _ (by decide +kernel)) ggX3_meanDepth_X3_isRow
set_option maxRecDepth 20000 in
theorem ggX3_meanDepth_X3_depthsOf : GoodIn wsX3_meanDepth wsX3_depthsOf := goodIn_r _ [10, 2, 7, 8, 9, 5, 15, 16, 17, 18, 19, 20] (by decide +kernel) (by decide +kernel)
set_option maxRecDepth 20000 in
theorem gX3_meanDepth_X3_depthsOf : GoodIn wsX3_meanDepth (wsV RX3 62 RX3 yX3_depthsOf wsX3_depthsOf) := goodIn_app (goodIn_of _ (by decide +kernel)) ggX3_meanDepth_X3_depthsOf
set_option maxRecDepth 20000 in
theorem ggX3_meanDepth_X3_count : GoodIn wsX3_meanDepth wsX3_count := goodIn_r _ [14, 2, 11, 12, 13, 5, 15, 16, 17, 18, 19, 20] (by decide +kernel) (by decide +kernel)
set_option maxRecDepth 20000 in
theorem gX3_meanDepth_X3_count : GoodIn wsX3_meanDepth (wsV RX3 50 RX3 yX3_count wsX3_count) := goodIn_app (goodIn_of _ (by decide +kernel)) ggX3_meanDepth_X3_count
theorem dX3_meanDepth_0 : decode cX3_meanDepth 0 = .ok (.aload_n 0, 1) := by decide +kernel
theorem dX3_meanDepth_1 : decode cX3_meanDepth 1 = .ok (.iload_n 1, 1) := by decide +kernel
theorem dX3_meanDepth_2 : decode cX3_meanDepth 2 = .ok (.invokestatic 88, 3) := by decide +kernel
theorem dX3_meanDepth_5 : decode cX3_meanDepth 5 = .ok (.ifCond .eq 7, 3) := by decide +kernel
theorem dX3_meanDepth_8 : decode cX3_meanDepth 8 = .ok (.iconst 0, 1) := by decide +kernel
theorem dX3_meanDepth_9 : decode cX3_meanDepth 9 = .ok (.goto 4, 3) := by decide +kernel
theorem dX3_meanDepth_12 : decode cX3_meanDepth 12 = .ok (.iconst 1, 1) := by decide +kernel
theorem dX3_meanDepth_13 : decode cX3_meanDepth 13 = .ok (.putfield 16, 3) := by decide +kernel
theorem dX3_meanDepth_16 : decode cX3_meanDepth 16 = .ok (.aload_n 0, 1) := by decide +kernel
theorem dX3_meanDepth_17 : decode cX3_meanDepth 17 = .ok (.getfield 16, 3) := by decide +kernel
theorem dX3_meanDepth_20 : decode cX3_meanDepth 20 = .ok (.ifCond .gt 17, 3) := by decide +kernel
theorem dX3_meanDepth_23 : decode cX3_meanDepth 23 = .ok (.aload_n 0, 1) := by decide +kernel
theorem dX3_meanDepth_24 : decode cX3_meanDepth 24 = .ok (.getfield 9, 3) := by decide +kernel
theorem dX3_meanDepth_27 : decode cX3_meanDepth 27 = .ok (.sipush 200, 3) := by decide +kernel
theorem dX3_meanDepth_30 : decode cX3_meanDepth 30 = .ok (.iload_n 1, 1) := by decide +kernel
theorem dX3_meanDepth_31 : decode cX3_meanDepth 31 = .ok (.iadd, 1) := by decide +kernel
theorem dX3_meanDepth_32 : decode cX3_meanDepth 32 = .ok (.iaload, 1) := by decide +kernel
theorem dX3_meanDepth_33 : decode cX3_meanDepth 33 = .ok (.iconst (-1), 1) := by decide +kernel
theorem dX3_meanDepth_34 : decode cX3_meanDepth 34 = .ok (.if_icmp .ne 5, 3) := by decide +kernel
theorem dX3_meanDepth_37 : decode cX3_meanDepth 37 = .ok (.dconst 0, 1) := by decide +kernel
theorem dX3_meanDepth_38 : decode cX3_meanDepth 38 = .ok (.dreturn, 1) := by decide +kernel
theorem dX3_meanDepth_39 : decode cX3_meanDepth 39 = .ok (.aload_n 0, 1) := by decide +kernel
theorem dX3_meanDepth_40 : decode cX3_meanDepth 40 = .ok (.aload_n 0, 1) := by decide +kernel
theorem dX3_meanDepth_41 : decode cX3_meanDepth 41 = .ok (.getfield 9, 3) := by decide +kernel
theorem dX3_meanDepth_44 : decode cX3_meanDepth 44 = .ok (.sipush 200, 3) := by decide +kernel
theorem dX3_meanDepth_47 : decode cX3_meanDepth 47 = .ok (.iload_n 1, 1) := by decide +kernel
theorem dX3_meanDepth_48 : decode cX3_meanDepth 48 = .ok (.iadd, 1) := by decide +kernel
theorem dX3_meanDepth_49 : decode cX3_meanDepth 49 = .ok (.iaload, 1) := by decide +kernel
theorem dX3_meanDepth_50 : decode cX3_meanDepth 50 = .ok (.iconst 0, 1) := by decide +kernel
theorem dX3_meanDepth_51 : decode cX3_meanDepth 51 = .ok (.invokevirtual 62, 3) := by decide +kernel
theorem dX3_meanDepth_54 : decode cX3_meanDepth 54 = .ok (.i2d, 1) := by decide +kernel
theorem dX3_meanDepth_55 : decode cX3_meanDepth 55 = .ok (.aload_n 0, 1) := by decide +kernel
theorem dX3_meanDepth_56 : decode cX3_meanDepth 56 = .ok (.aload_n 0, 1) := by decide +kernel
theorem dX3_meanDepth_57 : decode cX3_meanDepth 57 = .ok (.getfield 9, 3) := by decide +kernel
theorem dX3_meanDepth_60 : decode cX3_meanDepth 60 = .ok (.sipush 200, 3) := by decide +kernel
theorem dX3_meanDepth_63 : decode cX3_meanDepth 63 = .ok (.iload_n 1, 1) := by decide +kernel
theorem dX3_meanDepth_64 : decode cX3_meanDepth 64 = .ok (.iadd, 1) := by decide +kernel
theorem dX3_meanDepth_65 : decode cX3_meanDepth 65 = .ok (.iaload, 1) := by decide +kernel
theorem dX3_meanDepth_66 : decode cX3_meanDepth 66 = .ok (.invokevirtual 50, 3) := by decide +kernel
theorem dX3_meanDepth_69 : decode cX3_meanDepth 69 = .ok (.i2d, 1) := by decide +kernel
theorem dX3_meanDepth_70 : decode cX3_meanDepth 70 = .ok (.ddiv, 1) := by decide +kernel
theorem dX3_meanDepth_71 : decode cX3_meanDepth 71 = .ok (.dreturn, 1) := by decide +kernel
set_option maxRecDepth 20000 in
theorem ggX3_digest_X3_count : GoodIn wsX3_digest wsX3_count := goodIn_r _ [11, 6, 7, 8, 9, 10, 85, 86, 87, 88, 89, 90] (by decide +kernel) (by decide +kernel)
set_option maxRecDepth 20000 in
theorem gX3_digest_X3_count : GoodIn wsX3_digest (wsV RX3 50 RX3 yX3_count wsX3_count) := goodIn_app (goodIn_of _ (by decide +kernel)) ggX3_digest_X3_count
set_option maxRecDepth 20000 in
theorem ggX3_digest_X3_sizeAt : GoodIn wsX3_digest wsX3_sizeAt := goodIn_r _ [15, 6, 85, 86, 87, 88, 89, 90] (by decide +kernel) (by decide +kernel)
set_option maxRecDepth 20000 in
theorem gX3_digest_X3_sizeAt : GoodIn wsX3_digest (wsV RX3 130 RX3 yX3_sizeAt wsX3_sizeAt) := goodIn_app (goodIn_of _ (by decide +kernel)) ggX3_digest_X3_sizeAt
set_option maxRecDepth 20000 in
theorem ggX3_digest_X3_high : GoodIn wsX3_digest wsX3_high := goodIn_r _ [19, 6, 20, 21, 22, 23, 16, 17, 18, 10, 85, 86, 87, 88, 89, 90] (by decide +kernel) (by decide +kernel)
set_option maxRecDepth 20000 in
theorem gX3_digest_X3_high : GoodIn wsX3_digest (wsV RX3 53 RX3 yX3_high wsX3_high) := goodIn_app (goodIn_of _ (by decide +kernel)) ggX3_digest_X3_high
set_option maxRecDepth 20000 in
theorem ggX3_digest_X3_lowest : GoodIn wsX3_digest wsX3_lowest := goodIn_r _ [27, 6, 7, 8, 9, 10, 11, 85, 86, 87, 88, 89, 90] (by decide +kernel) (by decide +kernel)
set_option maxRecDepth 20000 in
theorem gX3_digest_X3_lowest : GoodIn wsX3_digest (wsV RX3 133 RX3 yX3_lowest wsX3_lowest) := goodIn_app (goodIn_of _ (by decide +kernel)) ggX3_digest_X3_lowest
set_option maxRecDepth 20000 in
theorem ggX3_digest_X3_depthsOf : GoodIn wsX3_digest wsX3_depthsOf := goodIn_r _ [31, 6, 28, 29, 30, 10, 85, 86, 87, 88, 89, 90] (by decide +kernel) (by decide +kernel)
set_option maxRecDepth 20000 in
theorem gX3_digest_X3_depthsOf : GoodIn wsX3_digest (wsV RX3 62 RX3 yX3_depthsOf wsX3_depthsOf) := goodIn_app (goodIn_of _ (by decide +kernel)) ggX3_digest_X3_depthsOf
set_option maxRecDepth 20000 in
theorem ggX3_digest_X3_ends : GoodIn wsX3_digest wsX3_ends := goodIn_r _ [35, 6, 32, 33, 34, 10, 85, 86, 87, 88, 89, 90] (by decide +kernel) (by decide +kernel)
set_option maxRecDepth 20000 in
theorem gX3_digest_X3_ends : GoodIn wsX3_digest (wsV RX3 65 RX3 yX3_ends wsX3_ends) := goodIn_app (goodIn_of _ (by decide +kernel)) ggX3_digest_X3_ends
set_option maxRecDepth 20000 in
theorem ggX3_digest_X3_liked : GoodIn wsX3_digest wsX3_liked := goodIn_r _ [39, 6, 7, 8, 9, 10, 11, 40, 41, 42, 43, 12, 13, 14, 15, 85, 86, 87, 88, 89, 90] (by decide +kernel) (by decide +kernel)
set_option maxRecDepth 20000 in
theorem gX3_digest_X3_liked : GoodIn wsX3_digest (wsV RX3 142 RX3 yX3_liked wsX3_liked) := goodIn_app (goodIn_of _ (by decide +kernel)) ggX3_digest_X3_liked
set_option maxRecDepth 20000 in
theorem ggX3_digest_X3_best : GoodIn wsX3_digest wsX3_best := goodIn_r _ [47, 6, 7, 8, 9, 10, 11, 40, 41, 42, 43, 48, 49, 50, 51, 52, 53, 54, 55, 56, 5, 57, 58, 59, 60, 61, 62, 63, 64, 65, 66, 67, 68, 69, 70, 71, 72, 73, 74, 75, 76, 28, 29, 30, 31, 77, 78, 79, 80, 12, 13, 14, 15, 85, 86, 87, 88, 89, 90] (by decide +kernel) (by decide +kernel)
set_option maxRecDepth 20000 in
theorem gX3_digest_X3_best : GoodIn wsX3_digest (wsV RX3 151 RX3 yX3_best wsX3_best) := goodIn_app (goodIn_of _ (by decide +kernel)) ggX3_digest_X3_best
set_option maxRecDepth 20000 in
theorem ggX3_digest_X3_nth : GoodIn wsX3_digest wsX3_nth := goodIn_r _ [43, 6, 7, 8, 9, 10, 11, 40, 41, 42, 85, 86, 87, 88, 89, 90] (by decide +kernel) (by decide +kernel)
set_option maxRecDepth 20000 in
theorem gX3_digest_X3_nth : GoodIn wsX3_digest (wsV RX3 71 RX3 yX3_nth wsX3_nth) := goodIn_app (goodIn_of _ (by decide +kernel)) ggX3_digest_X3_nth
set_option maxRecDepth 20000 in
theorem ggX3_digest_X3_deep : GoodIn wsX3_digest wsX3_deep := goodIn_r _ [84, 6, 85, 86, 87, 88, 89, 90] (by decide +kernel) (by decide +kernel)
set_option maxRecDepth 20000 in
theorem gX3_digest_X3_deep : GoodIn wsX3_digest (wsV RX3 81 RX3 yX3_deep wsX3_deep) := goodIn_app (goodIn_of _ (by decide +kernel)) ggX3_digest_X3_deep
theorem dX3_digest_0 : decode cX3_digest 0 = .ok (.aload_n 0, 1) := by decide +kernel
theorem dX3_digest_1 : decode cX3_digest 1 = .ok (.iconst 0, 1) := by decide +kernel
theorem dX3_digest_2 : decode cX3_digest 2 = .ok (.putfield 16, 3) := by decide +kernel
theorem dX3_digest_5 : decode cX3_digest 5 = .ok (.ldc2_w 157, 3) := by decide +kernel
theorem dX3_digest_8 : decode cX3_digest 8 = .ok (.aload_n 0, 1) := by decide +kernel
theorem dX3_digest_9 : decode cX3_digest 9 = .ok (.getfield 78, 3) := by decide +kernel
theorem dX3_digest_12 : decode cX3_digest 12 = .ok (.i2l, 1) := by decide +kernel
theorem dX3_digest_13 : decode cX3_digest 13 = .ok (.ladd, 1) := by decide +kernel
theorem dX3_digest_14 : decode cX3_digest 14 = .ok (.ldc2_w 159, 3) := by decide +kernel
theorem dX3_digest_17 : decode cX3_digest 17 = .ok (.lmul, 1) := by decide +kernel
theorem dX3_digest_18 : decode cX3_digest 18 = .ok (.aload_n 0, 1) := by decide +kernel
theorem dX3_digest_19 : decode cX3_digest 19 = .ok (.getfield 26, 3) := by decide +kernel
theorem dX3_digest_22 : decode cX3_digest 22 = .ok (.i2l, 1) := by decide +kernel
theorem dX3_digest_23 : decode cX3_digest 23 = .ok (.ladd, 1) := by decide +kernel
theorem dX3_digest_24 : decode cX3_digest 24 = .ok (.lstore_n 1, 1) := by decide +kernel
theorem dX3_digest_25 : decode cX3_digest 25 = .ok (.iconst 0, 1) := by decide +kernel
theorem dX3_digest_26 : decode cX3_digest 26 = .ok (.istore_n 3, 1) := by decide +kernel
theorem dX3_digest_27 : decode cX3_digest 27 = .ok (.iload_n 3, 1) := by decide +kernel
theorem dX3_digest_28 : decode cX3_digest 28 = .ok (.bipush 6, 2) := by decide +kernel
theorem dX3_digest_30 : decode cX3_digest 30 = .ok (.if_icmp .ge 275, 3) := by decide +kernel
theorem dX3_digest_33 : decode cX3_digest 33 = .ok (.aload_n 0, 1) := by decide +kernel
theorem dX3_digest_34 : decode cX3_digest 34 = .ok (.getfield 9, 3) := by decide +kernel
theorem dX3_digest_37 : decode cX3_digest 37 = .ok (.sipush 200, 3) := by decide +kernel
theorem dX3_digest_40 : decode cX3_digest 40 = .ok (.iload_n 3, 1) := by decide +kernel
theorem dX3_digest_41 : decode cX3_digest 41 = .ok (.iadd, 1) := by decide +kernel
theorem dX3_digest_42 : decode cX3_digest 42 = .ok (.iaload, 1) := by decide +kernel
theorem dX3_digest_43 : decode cX3_digest 43 = .ok (.istore 4, 2) := by decide +kernel
theorem dX3_digest_45 : decode cX3_digest 45 = .ok (.lload_n 1, 1) := by decide +kernel
theorem dX3_digest_46 : decode cX3_digest 46 = .ok (.ldc2_w 159, 3) := by decide +kernel
theorem dX3_digest_49 : decode cX3_digest 49 = .ok (.lmul, 1) := by decide +kernel
theorem dX3_digest_50 : decode cX3_digest 50 = .ok (.aload_n 0, 1) := by decide +kernel
theorem dX3_digest_51 : decode cX3_digest 51 = .ok (.iload 4, 2) := by decide +kernel
theorem dX3_digest_53 : decode cX3_digest 53 = .ok (.invokevirtual 50, 3) := by decide +kernel
theorem dX3_digest_56 : decode cX3_digest 56 = .ok (.i2l, 1) := by decide +kernel
theorem dX3_digest_57 : decode cX3_digest 57 = .ok (.ladd, 1) := by decide +kernel
theorem dX3_digest_58 : decode cX3_digest 58 = .ok (.ldc2_w 159, 3) := by decide +kernel
theorem dX3_digest_61 : decode cX3_digest 61 = .ok (.lmul, 1) := by decide +kernel
theorem dX3_digest_62 : decode cX3_digest 62 = .ok (.aload_n 0, 1) := by decide +kernel
theorem dX3_digest_63 : decode cX3_digest 63 = .ok (.iload 4, 2) := by decide +kernel
theorem dX3_digest_65 : decode cX3_digest 65 = .ok (.invokevirtual 130, 3) := by decide +kernel
theorem dX3_digest_68 : decode cX3_digest 68 = .ok (.i2l, 1) := by decide +kernel
theorem dX3_digest_69 : decode cX3_digest 69 = .ok (.ladd, 1) := by decide +kernel
theorem dX3_digest_70 : decode cX3_digest 70 = .ok (.ldc2_w 159, 3) := by decide +kernel
theorem dX3_digest_73 : decode cX3_digest 73 = .ok (.lmul, 1) := by decide +kernel
theorem dX3_digest_74 : decode cX3_digest 74 = .ok (.aload_n 0, 1) := by decide +kernel
theorem dX3_digest_75 : decode cX3_digest 75 = .ok (.iload 4, 2) := by decide +kernel
theorem dX3_digest_77 : decode cX3_digest 77 = .ok (.invokevirtual 53, 3) := by decide +kernel
theorem dX3_digest_80 : decode cX3_digest 80 = .ok (.i2l, 1) := by decide +kernel
theorem dX3_digest_81 : decode cX3_digest 81 = .ok (.ladd, 1) := by decide +kernel
theorem dX3_digest_82 : decode cX3_digest 82 = .ok (.lstore_n 1, 1) := by decide +kernel
theorem dX3_digest_83 : decode cX3_digest 83 = .ok (.lload_n 1, 1) := by decide +kernel
theorem dX3_digest_84 : decode cX3_digest 84 = .ok (.ldc2_w 159, 3) := by decide +kernel
theorem dX3_digest_87 : decode cX3_digest 87 = .ok (.lmul, 1) := by decide +kernel
theorem dX3_digest_88 : decode cX3_digest 88 = .ok (.aload_n 0, 1) := by decide +kernel
theorem dX3_digest_89 : decode cX3_digest 89 = .ok (.iload_n 3, 1) := by decide +kernel
theorem dX3_digest_90 : decode cX3_digest 90 = .ok (.invokevirtual 133, 3) := by decide +kernel
theorem dX3_digest_93 : decode cX3_digest 93 = .ok (.i2l, 1) := by decide +kernel
theorem dX3_digest_94 : decode cX3_digest 94 = .ok (.ladd, 1) := by decide +kernel
theorem dX3_digest_95 : decode cX3_digest 95 = .ok (.ldc2_w 159, 3) := by decide +kernel
theorem dX3_digest_98 : decode cX3_digest 98 = .ok (.lmul, 1) := by decide +kernel
theorem dX3_digest_99 : decode cX3_digest 99 = .ok (.aload_n 0, 1) := by decide +kernel
theorem dX3_digest_100 : decode cX3_digest 100 = .ok (.iload 4, 2) := by decide +kernel
theorem dX3_digest_102 : decode cX3_digest 102 = .ok (.iconst 0, 1) := by decide +kernel
theorem dX3_digest_103 : decode cX3_digest 103 = .ok (.invokevirtual 62, 3) := by decide +kernel
theorem dX3_digest_106 : decode cX3_digest 106 = .ok (.i2l, 1) := by decide +kernel
theorem dX3_digest_107 : decode cX3_digest 107 = .ok (.ladd, 1) := by decide +kernel
theorem dX3_digest_108 : decode cX3_digest 108 = .ok (.ldc2_w 159, 3) := by decide +kernel
theorem dX3_digest_111 : decode cX3_digest 111 = .ok (.lmul, 1) := by decide +kernel
theorem dX3_digest_112 : decode cX3_digest 112 = .ok (.aload_n 0, 1) := by decide +kernel
theorem dX3_digest_113 : decode cX3_digest 113 = .ok (.iload 4, 2) := by decide +kernel
theorem dX3_digest_115 : decode cX3_digest 115 = .ok (.invokevirtual 65, 3) := by decide +kernel
theorem dX3_digest_118 : decode cX3_digest 118 = .ok (.i2l, 1) := by decide +kernel
theorem dX3_digest_119 : decode cX3_digest 119 = .ok (.ladd, 1) := by decide +kernel
theorem dX3_digest_120 : decode cX3_digest 120 = .ok (.lstore_n 1, 1) := by decide +kernel
theorem dX3_digest_121 : decode cX3_digest 121 = .ok (.lload_n 1, 1) := by decide +kernel
theorem dX3_digest_122 : decode cX3_digest 122 = .ok (.ldc2_w 159, 3) := by decide +kernel
theorem dX3_digest_125 : decode cX3_digest 125 = .ok (.lmul, 1) := by decide +kernel
theorem dX3_digest_126 : decode cX3_digest 126 = .ok (.aload_n 0, 1) := by decide +kernel
theorem dX3_digest_127 : decode cX3_digest 127 = .ok (.iload_n 3, 1) := by decide +kernel
theorem dX3_digest_128 : decode cX3_digest 128 = .ok (.invokevirtual 142, 3) := by decide +kernel
theorem dX3_digest_131 : decode cX3_digest 131 = .ok (.i2l, 1) := by decide +kernel
theorem dX3_digest_132 : decode cX3_digest 132 = .ok (.ladd, 1) := by decide +kernel
theorem dX3_digest_133 : decode cX3_digest 133 = .ok (.ldc2_w 159, 3) := by decide +kernel
theorem dX3_digest_136 : decode cX3_digest 136 = .ok (.lmul, 1) := by decide +kernel
theorem dX3_digest_137 : decode cX3_digest 137 = .ok (.aload_n 0, 1) := by decide +kernel
theorem dX3_digest_138 : decode cX3_digest 138 = .ok (.iload_n 3, 1) := by decide +kernel
theorem dX3_digest_139 : decode cX3_digest 139 = .ok (.invokevirtual 151, 3) := by decide +kernel
theorem dX3_digest_142 : decode cX3_digest 142 = .ok (.i2l, 1) := by decide +kernel
theorem dX3_digest_143 : decode cX3_digest 143 = .ok (.ladd, 1) := by decide +kernel
theorem dX3_digest_144 : decode cX3_digest 144 = .ok (.lstore_n 1, 1) := by decide +kernel
theorem dX3_digest_145 : decode cX3_digest 145 = .ok (.iconst 0, 1) := by decide +kernel
theorem dX3_digest_146 : decode cX3_digest 146 = .ok (.istore 5, 2) := by decide +kernel
theorem dX3_digest_148 : decode cX3_digest 148 = .ok (.iload 5, 2) := by decide +kernel
theorem dX3_digest_150 : decode cX3_digest 150 = .ok (.aload_n 0, 1) := by decide +kernel
theorem dX3_digest_151 : decode cX3_digest 151 = .ok (.iload 4, 2) := by decide +kernel
theorem dX3_digest_153 : decode cX3_digest 153 = .ok (.invokevirtual 50, 3) := by decide +kernel
theorem dX3_digest_156 : decode cX3_digest 156 = .ok (.if_icmp .ge 143, 3) := by decide +kernel
theorem dX3_digest_159 : decode cX3_digest 159 = .ok (.aload_n 0, 1) := by decide +kernel
theorem dX3_digest_160 : decode cX3_digest 160 = .ok (.iload 4, 2) := by decide +kernel
theorem dX3_digest_162 : decode cX3_digest 162 = .ok (.iload 5, 2) := by decide +kernel
theorem dX3_digest_164 : decode cX3_digest 164 = .ok (.invokevirtual 71, 3) := by decide +kernel
theorem dX3_digest_167 : decode cX3_digest 167 = .ok (.istore 6, 2) := by decide +kernel
theorem dX3_digest_169 : decode cX3_digest 169 = .ok (.lload_n 1, 1) := by decide +kernel
theorem dX3_digest_170 : decode cX3_digest 170 = .ok (.ldc2_w 159, 3) := by decide +kernel
theorem dX3_digest_173 : decode cX3_digest 173 = .ok (.lmul, 1) := by decide +kernel
theorem dX3_digest_174 : decode cX3_digest 174 = .ok (.aload_n 0, 1) := by decide +kernel
theorem dX3_digest_175 : decode cX3_digest 175 = .ok (.getfield 9, 3) := by decide +kernel
theorem dX3_digest_178 : decode cX3_digest 178 = .ok (.iconst 0, 1) := by decide +kernel
theorem dX3_digest_179 : decode cX3_digest 179 = .ok (.iload 6, 2) := by decide +kernel
theorem dX3_digest_181 : decode cX3_digest 181 = .ok (.iadd, 1) := by decide +kernel
theorem dX3_digest_182 : decode cX3_digest 182 = .ok (.iaload, 1) := by decide +kernel
theorem dX3_digest_183 : decode cX3_digest 183 = .ok (.i2l, 1) := by decide +kernel
theorem dX3_digest_184 : decode cX3_digest 184 = .ok (.ladd, 1) := by decide +kernel
theorem dX3_digest_185 : decode cX3_digest 185 = .ok (.ldc2_w 159, 3) := by decide +kernel
theorem dX3_digest_188 : decode cX3_digest 188 = .ok (.lmul, 1) := by decide +kernel
theorem dX3_digest_189 : decode cX3_digest 189 = .ok (.aload_n 0, 1) := by decide +kernel
theorem dX3_digest_190 : decode cX3_digest 190 = .ok (.iload 6, 2) := by decide +kernel
theorem dX3_digest_192 : decode cX3_digest 192 = .ok (.invokevirtual 81, 3) := by decide +kernel
theorem dX3_digest_195 : decode cX3_digest 195 = .ok (.i2l, 1) := by decide +kernel
theorem dX3_digest_196 : decode cX3_digest 196 = .ok (.ladd, 1) := by decide +kernel
theorem dX3_digest_197 : decode cX3_digest 197 = .ok (.ldc2_w 159, 3) := by decide +kernel
theorem dX3_digest_200 : decode cX3_digest 200 = .ok (.lmul, 1) := by decide +kernel
theorem dX3_digest_201 : decode cX3_digest 201 = .ok (.aload_n 0, 1) := by decide +kernel
theorem dX3_digest_202 : decode cX3_digest 202 = .ok (.aload_n 0, 1) := by decide +kernel
theorem dX3_digest_203 : decode cX3_digest 203 = .ok (.getfield 9, 3) := by decide +kernel
theorem dX3_digest_206 : decode cX3_digest 206 = .ok (.bipush 120, 2) := by decide +kernel
theorem dX3_digest_208 : decode cX3_digest 208 = .ok (.iload 6, 2) := by decide +kernel
theorem dX3_digest_210 : decode cX3_digest 210 = .ok (.iadd, 1) := by decide +kernel
theorem dX3_digest_211 : decode cX3_digest 211 = .ok (.iaload, 1) := by decide +kernel
theorem dX3_digest_212 : decode cX3_digest 212 = .ok (.invokevirtual 130, 3) := by decide +kernel
theorem dX3_digest_215 : decode cX3_digest 215 = .ok (.i2l, 1) := by decide +kernel
theorem dX3_digest_216 : decode cX3_digest 216 = .ok (.ladd, 1) := by decide +kernel
theorem dX3_digest_217 : decode cX3_digest 217 = .ok (.lstore_n 1, 1) := by decide +kernel
theorem dX3_digest_218 : decode cX3_digest 218 = .ok (.lload_n 1, 1) := by decide +kernel
theorem dX3_digest_219 : decode cX3_digest 219 = .ok (.ldc2_w 159, 3) := by decide +kernel
theorem dX3_digest_222 : decode cX3_digest 222 = .ok (.lmul, 1) := by decide +kernel
theorem dX3_digest_223 : decode cX3_digest 223 = .ok (.aload_n 0, 1) := by decide +kernel
theorem dX3_digest_224 : decode cX3_digest 224 = .ok (.aload_n 0, 1) := by decide +kernel
theorem dX3_digest_225 : decode cX3_digest 225 = .ok (.getfield 9, 3) := by decide +kernel
theorem dX3_digest_228 : decode cX3_digest 228 = .ok (.bipush 40, 2) := by decide +kernel
theorem dX3_digest_230 : decode cX3_digest 230 = .ok (.iload 6, 2) := by decide +kernel
theorem dX3_digest_232 : decode cX3_digest 232 = .ok (.iadd, 1) := by decide +kernel
theorem dX3_digest_233 : decode cX3_digest 233 = .ok (.iaload, 1) := by decide +kernel
theorem dX3_digest_234 : decode cX3_digest 234 = .ok (.invokevirtual 130, 3) := by decide +kernel
theorem dX3_digest_237 : decode cX3_digest 237 = .ok (.i2l, 1) := by decide +kernel
theorem dX3_digest_238 : decode cX3_digest 238 = .ok (.ladd, 1) := by decide +kernel
theorem dX3_digest_239 : decode cX3_digest 239 = .ok (.ldc2_w 159, 3) := by decide +kernel
theorem dX3_digest_242 : decode cX3_digest 242 = .ok (.lmul, 1) := by decide +kernel
theorem dX3_digest_243 : decode cX3_digest 243 = .ok (.aload_n 0, 1) := by decide +kernel
theorem dX3_digest_244 : decode cX3_digest 244 = .ok (.aload_n 0, 1) := by decide +kernel
theorem dX3_digest_245 : decode cX3_digest 245 = .ok (.getfield 9, 3) := by decide +kernel
theorem dX3_digest_248 : decode cX3_digest 248 = .ok (.bipush 80, 2) := by decide +kernel
theorem dX3_digest_250 : decode cX3_digest 250 = .ok (.iload 6, 2) := by decide +kernel
theorem dX3_digest_252 : decode cX3_digest 252 = .ok (.iadd, 1) := by decide +kernel
theorem dX3_digest_253 : decode cX3_digest 253 = .ok (.iaload, 1) := by decide +kernel
theorem dX3_digest_254 : decode cX3_digest 254 = .ok (.invokevirtual 130, 3) := by decide +kernel
theorem dX3_digest_257 : decode cX3_digest 257 = .ok (.i2l, 1) := by decide +kernel
theorem dX3_digest_258 : decode cX3_digest 258 = .ok (.ladd, 1) := by decide +kernel
theorem dX3_digest_259 : decode cX3_digest 259 = .ok (.ldc2_w 159, 3) := by decide +kernel
theorem dX3_digest_262 : decode cX3_digest 262 = .ok (.lmul, 1) := by decide +kernel
theorem dX3_digest_263 : decode cX3_digest 263 = .ok (.aload_n 0, 1) := by decide +kernel
theorem dX3_digest_264 : decode cX3_digest 264 = .ok (.iload 6, 2) := by decide +kernel
theorem dX3_digest_266 : decode cX3_digest 266 = .ok (.invokevirtual 50, 3) := by decide +kernel
theorem dX3_digest_269 : decode cX3_digest 269 = .ok (.iconst 1, 1) := by decide +kernel
theorem dX3_digest_270 : decode cX3_digest 270 = .ok (.isub, 1) := by decide +kernel
theorem dX3_digest_271 : decode cX3_digest 271 = .ok (.i2l, 1) := by decide +kernel
theorem dX3_digest_272 : decode cX3_digest 272 = .ok (.ladd, 1) := by decide +kernel
theorem dX3_digest_273 : decode cX3_digest 273 = .ok (.lstore_n 1, 1) := by decide +kernel
theorem dX3_digest_274 : decode cX3_digest 274 = .ok (.lload_n 1, 1) := by decide +kernel
theorem dX3_digest_275 : decode cX3_digest 275 = .ok (.ldc2_w 159, 3) := by decide +kernel
theorem dX3_digest_278 : decode cX3_digest 278 = .ok (.lmul, 1) := by decide +kernel
theorem dX3_digest_279 : decode cX3_digest 279 = .ok (.aload_n 0, 1) := by decide +kernel
theorem dX3_digest_280 : decode cX3_digest 280 = .ok (.getfield 9, 3) := by decide +kernel
theorem dX3_digest_283 : decode cX3_digest 283 = .ok (.sipush 160, 3) := by decide +kernel
theorem dX3_digest_286 : decode cX3_digest 286 = .ok (.iload 6, 2) := by decide +kernel
theorem dX3_digest_288 : decode cX3_digest 288 = .ok (.iadd, 1) := by decide +kernel
theorem dX3_digest_289 : decode cX3_digest 289 = .ok (.iaload, 1) := by decide +kernel
theorem dX3_digest_290 : decode cX3_digest 290 = .ok (.i2l, 1) := by decide +kernel
theorem dX3_digest_291 : decode cX3_digest 291 = .ok (.ladd, 1) := by decide +kernel
theorem dX3_digest_292 : decode cX3_digest 292 = .ok (.lstore_n 1, 1) := by decide +kernel
theorem dX3_digest_293 : decode cX3_digest 293 = .ok (.iinc 5 1, 3) := by decide +kernel
theorem dX3_digest_296 : decode cX3_digest 296 = .ok (.goto (-148), 3) := by decide +kernel
theorem dX3_digest_299 : decode cX3_digest 299 = .ok (.iinc 3 1, 3) := by decide +kernel
theorem dX3_digest_302 : decode cX3_digest 302 = .ok (.goto (-275), 3) := by decide +kernel
theorem dX3_digest_305 : decode cX3_digest 305 = .ok (.lload_n 1, 1) := by decide +kernel
theorem dX3_digest_306 : decode cX3_digest 306 = .ok (.lreturn, 1) := by decide +kernel
