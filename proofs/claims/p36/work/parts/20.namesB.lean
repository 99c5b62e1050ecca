set_option maxRecDepth 20000 in
theorem ggX2_init_X1_init : GoodIn wsX2_init wsX1_init := goodIn_r _ [10, 11, 2, 3] (by decide +kernel) (by decide +kernel)
set_option maxRecDepth 20000 in
theorem gX2_init_X1_init_n15 : GoodIn wsX2_init (wsX1_init) := ggX2_init_X1_init
theorem dX2_init_0 : decode cX2_init 0 = .ok (.aload_n 0, 1) := by decide +kernel
theorem dX2_init_1 : decode cX2_init 1 = .ok (.invokespecial 1, 3) := by decide +kernel
theorem dX2_init_4 : decode cX2_init 4 = .ok (.aload_n 0, 1) := by decide +kernel
theorem dX2_init_5 : decode cX2_init 5 = .ok (.bipush 6, 2) := by decide +kernel
theorem dX2_init_7 : decode cX2_init 7 = .ok (.anewarray 9, 3) := by decide +kernel
theorem dX2_init_10 : decode cX2_init 10 = .ok (.putfield 11, 3) := by decide +kernel
theorem dX2_init_13 : decode cX2_init 13 = .ok (.aload_n 0, 1) := by decide +kernel
theorem dX2_init_14 : decode cX2_init 14 = .ok (.new 9, 3) := by decide +kernel
theorem dX2_init_17 : decode cX2_init 17 = .ok (.dup, 1) := by decide +kernel
theorem dX2_init_18 : decode cX2_init 18 = .ok (.invokespecial 15, 3) := by decide +kernel
theorem dX2_init_21 : decode cX2_init 21 = .ok (.putfield 16, 3) := by decide +kernel
theorem dX2_init_24 : decode cX2_init 24 = .ok (.iconst 0, 1) := by decide +kernel
theorem dX2_init_25 : decode cX2_init 25 = .ok (.istore_n 1, 1) := by decide +kernel
theorem dX2_init_26 : decode cX2_init 26 = .ok (.iload_n 1, 1) := by decide +kernel
theorem dX2_init_27 : decode cX2_init 27 = .ok (.aload_n 0, 1) := by decide +kernel
theorem dX2_init_28 : decode cX2_init 28 = .ok (.getfield 11, 3) := by decide +kernel
theorem dX2_init_31 : decode cX2_init 31 = .ok (.arraylength, 1) := by decide +kernel
theorem dX2_init_32 : decode cX2_init 32 = .ok (.if_icmp .ge 22, 3) := by decide +kernel
theorem dX2_init_35 : decode cX2_init 35 = .ok (.aload_n 0, 1) := by decide +kernel
theorem dX2_init_36 : decode cX2_init 36 = .ok (.getfield 11, 3) := by decide +kernel
theorem dX2_init_39 : decode cX2_init 39 = .ok (.iload_n 1, 1) := by decide +kernel
theorem dX2_init_40 : decode cX2_init 40 = .ok (.new 9, 3) := by decide +kernel
theorem dX2_init_43 : decode cX2_init 43 = .ok (.dup, 1) := by decide +kernel
theorem dX2_init_44 : decode cX2_init 44 = .ok (.invokespecial 15, 3) := by decide +kernel
theorem dX2_init_47 : decode cX2_init 47 = .ok (.aastore, 1) := by decide +kernel
theorem dX2_init_48 : decode cX2_init 48 = .ok (.iinc 1 1, 3) := by decide +kernel
theorem dX2_init_51 : decode cX2_init 51 = .ok (.goto (-25), 3) := by decide +kernel
theorem dX2_init_54 : decode cX2_init 54 = .ok (.return_, 1) := by decide +kernel
set_option maxRecDepth 20000 in
theorem ggX2_plant_X2_treeOf : GoodIn wsX2_plant wsX2_treeOf := goodIn_ca (goodIn_r _ [10, 11, 12, 13, 116, 117, 118] (by decide +kernel) (by decide +kernel)) (goodIn_sub (fun _ h => List.mem_cons_of_mem _ (List.mem_append_left _ (List.mem_append_right _ h))) (by decide +kernel))
set_option maxRecDepth 20000 in
theorem gX2_plant_X2_treeOf : GoodIn wsX2_plant (wsV RX2 20 RX2 yX2_treeOf wsX2_treeOf) := goodIn_app (goodIn_of _ (by decide +kernel)) ggX2_plant_X2_treeOf
set_option maxRecDepth 20000 in
theorem ggX2_plant_X2_checkSize : GoodIn wsX2_plant wsX2_checkSize := goodIn_ca (goodIn_r _ [16, 17, 18] (by decide +kernel) (by decide +kernel)) (goodIn_sub (fun _ h => List.mem_cons_of_mem _ (List.mem_append_right _ h)) (by decide +kernel))
set_option maxRecDepth 20000 in
theorem gX2_plant_X2_checkSize : GoodIn wsX2_plant (va_wsS RX2 24 yX2_checkSize wsX2_checkSize) := goodIn_app (goodIn_of _ (by decide +kernel)) ggX2_plant_X2_checkSize
set_option maxRecDepth 20000 in
theorem ggX2_plant_X2_apples : GoodIn wsX2_plant wsX2_apples := goodIn_r _ [22, 13, 23, 24, 25, 26, 27, 28, 29, 30, 31, 5, 32, 33, 34, 35, 36, 37, 38, 39, 40, 41, 42, 43, 44, 45, 46, 47, 116, 117, 118, 119, 110, 111, 112, 113, 114, 115] (by decide +kernel) (by decide +kernel)
set_option maxRecDepth 20000 in
theorem gX2_plant_X2_apples : GoodIn wsX2_plant (wsV RX2 28 RX2 yX2_apples wsX2_apples) := goodIn_app (goodIn_of _ (by decide +kernel)) ggX2_plant_X2_apples
set_option maxRecDepth 20000 in
theorem ggX2_plant_X1_find : GoodIn wsX2_plant wsX1_find := goodIn_r _ [51, 52, 53, 54, 55, 26, 56, 28, 57, 58, 59, 5, 60, 61, 42, 37, 110, 111, 112, 113, 114, 115, 119] (by decide +kernel) (by decide +kernel)
set_option maxRecDepth 20000 in
theorem gX2_plant_X1_find : GoodIn wsX2_plant (wsV RX2 39 RX1 yX1_find wsX1_find) := goodIn_app (goodIn_of _ (by decide +kernel)) ggX2_plant_X1_find
set_option maxRecDepth 20000 in
theorem ggX2_plant_X0_init : GoodIn wsX2_plant wsX0_init := goodIn_r _ [64, 65, 66, 67, 61, 68, 110, 111, 112, 113, 114, 115] (by decide +kernel) (by decide +kernel)
set_option maxRecDepth 20000 in
theorem gX2_plant_X0_init : GoodIn wsX2_plant (wsX0_init) := ggX2_plant_X0_init
set_option maxRecDepth 20000 in
theorem ggX2_plant_X1_hang : GoodIn wsX2_plant wsX1_hang := goodIn_r _ [72, 52, 53, 54, 55, 26, 56, 28, 57, 58, 59, 5, 60, 61, 42, 37, 73, 74, 75, 76, 77, 78, 79, 80, 81, 47, 82, 83, 84, 85, 110, 111, 112, 113, 114, 115, 119] (by decide +kernel) (by decide +kernel)
set_option maxRecDepth 20000 in
theorem gX2_plant_X1_hang : GoodIn wsX2_plant (wsV RX2 50 RX1 yX1_hang wsX1_hang) := goodIn_app (goodIn_of _ (by decide +kernel)) ggX2_plant_X1_hang
set_option maxRecDepth 20000 in
theorem ggX2_plant_X2_bringUp : GoodIn wsX2_plant wsX2_bringUp := goodIn_r _ [89, 90, 91, 92, 93, 26, 94, 77, 28, 95, 96, 97, 5, 98, 47, 99, 100, 101, 102, 42, 103, 104, 105, 106, 37, 107, 108, 79, 80, 81, 109, 83, 84, 85, 116, 117, 118, 110, 111, 112, 113, 114, 115, 119] (by decide +kernel) (by decide +kernel)
set_option maxRecDepth 20000 in
theorem gX2_plant_X2_bringUp : GoodIn wsX2_plant (wsV RX2 54 RX2 yX2_bringUp wsX2_bringUp) := goodIn_app (goodIn_of _ (by decide +kernel)) ggX2_plant_X2_bringUp
theorem dX2_plant_0 : decode cX2_plant 0 = .ok (.aload_n 0, 1) := by decide +kernel
theorem dX2_plant_1 : decode cX2_plant 1 = .ok (.iload_n 1, 1) := by decide +kernel
theorem dX2_plant_2 : decode cX2_plant 2 = .ok (.invokevirtual 20, 3) := by decide +kernel
theorem dX2_plant_5 : decode cX2_plant 5 = .ok (.astore_n 3, 1) := by decide +kernel
theorem dX2_plant_6 : decode cX2_plant 6 = .ok (.iload_n 2, 1) := by decide +kernel
theorem dX2_plant_7 : decode cX2_plant 7 = .ok (.invokestatic 24, 3) := by decide +kernel
theorem dX2_plant_10 : decode cX2_plant 10 = .ok (.aload_n 0, 1) := by decide +kernel
theorem dX2_plant_11 : decode cX2_plant 11 = .ok (.invokevirtual 28, 3) := by decide +kernel
theorem dX2_plant_14 : decode cX2_plant 14 = .ok (.bipush 40, 2) := by decide +kernel
theorem dX2_plant_16 : decode cX2_plant 16 = .ok (.if_icmp .lt 13, 3) := by decide +kernel
theorem dX2_plant_19 : decode cX2_plant 19 = .ok (.new 32, 3) := by decide +kernel
theorem dX2_plant_22 : decode cX2_plant 22 = .ok (.dup, 1) := by decide +kernel
theorem dX2_plant_23 : decode cX2_plant 23 = .ok (.ldc 34, 2) := by decide +kernel
theorem dX2_plant_25 : decode cX2_plant 25 = .ok (.invokespecial 36, 3) := by decide +kernel
theorem dX2_plant_28 : decode cX2_plant 28 = .ok (.athrow, 1) := by decide +kernel
theorem dX2_plant_29 : decode cX2_plant 29 = .ok (.aload_n 3, 1) := by decide +kernel
theorem dX2_plant_30 : decode cX2_plant 30 = .ok (.iload_n 2, 1) := by decide +kernel
theorem dX2_plant_31 : decode cX2_plant 31 = .ok (.invokevirtual 39, 3) := by decide +kernel
theorem dX2_plant_34 : decode cX2_plant 34 = .ok (.ifnull 13, 3) := by decide +kernel
theorem dX2_plant_37 : decode cX2_plant 37 = .ok (.new 32, 3) := by decide +kernel
theorem dX2_plant_40 : decode cX2_plant 40 = .ok (.dup, 1) := by decide +kernel
theorem dX2_plant_41 : decode cX2_plant 41 = .ok (.ldc 43, 2) := by decide +kernel
theorem dX2_plant_43 : decode cX2_plant 43 = .ok (.invokespecial 36, 3) := by decide +kernel
theorem dX2_plant_46 : decode cX2_plant 46 = .ok (.athrow, 1) := by decide +kernel
theorem dX2_plant_47 : decode cX2_plant 47 = .ok (.new 45, 3) := by decide +kernel
theorem dX2_plant_50 : decode cX2_plant 50 = .ok (.dup, 1) := by decide +kernel
theorem dX2_plant_51 : decode cX2_plant 51 = .ok (.iload_n 2, 1) := by decide +kernel
theorem dX2_plant_52 : decode cX2_plant 52 = .ok (.new 45, 3) := by decide +kernel
theorem dX2_plant_55 : decode cX2_plant 55 = .ok (.dup, 1) := by decide +kernel
theorem dX2_plant_56 : decode cX2_plant 56 = .ok (.iload_n 2, 1) := by decide +kernel
theorem dX2_plant_57 : decode cX2_plant 57 = .ok (.aconst_null, 1) := by decide +kernel
theorem dX2_plant_58 : decode cX2_plant 58 = .ok (.invokespecial 47, 3) := by decide +kernel
theorem dX2_plant_61 : decode cX2_plant 61 = .ok (.invokespecial 47, 3) := by decide +kernel
theorem dX2_plant_64 : decode cX2_plant 64 = .ok (.astore 4, 2) := by decide +kernel
theorem dX2_plant_66 : decode cX2_plant 66 = .ok (.aload_n 3, 1) := by decide +kernel
theorem dX2_plant_67 : decode cX2_plant 67 = .ok (.aload 4, 2) := by decide +kernel
theorem dX2_plant_69 : decode cX2_plant 69 = .ok (.invokevirtual 50, 3) := by decide +kernel
theorem dX2_plant_72 : decode cX2_plant 72 = .ok (.aload_n 0, 1) := by decide +kernel
theorem dX2_plant_73 : decode cX2_plant 73 = .ok (.aload_n 3, 1) := by decide +kernel
theorem dX2_plant_74 : decode cX2_plant 74 = .ok (.aload 4, 2) := by decide +kernel
theorem dX2_plant_76 : decode cX2_plant 76 = .ok (.invokevirtual 54, 3) := by decide +kernel
theorem dX2_plant_79 : decode cX2_plant 79 = .ok (.ireturn, 1) := by decide +kernel
set_option maxRecDepth 20000 in
theorem ggX2_eat_X2_treeOf : GoodIn wsX2_eat wsX2_treeOf := goodIn_ca (goodIn_r _ [6, 7, 8, 9, 72, 73, 74] (by decide +kernel) (by decide +kernel)) (goodIn_sub (fun _ h => List.mem_cons_of_mem _ (List.mem_append_left _ (List.mem_append_right _ h))) (by decide +kernel))
set_option maxRecDepth 20000 in
theorem gX2_eat_X2_treeOf : GoodIn wsX2_eat (wsV RX2 20 RX2 yX2_treeOf wsX2_treeOf) := goodIn_app (goodIn_of _ (by decide +kernel)) ggX2_eat_X2_treeOf
set_option maxRecDepth 20000 in
theorem ggX2_eat_X2_appleOf : GoodIn wsX2_eat wsX2_appleOf := goodIn_ca (goodIn_r _ [12, 13, 14, 15, 16, 17, 18, 19, 20, 21, 22, 23, 24, 25, 26, 27, 28, 29, 30, 31, 32, 33, 66, 67, 68, 69, 70, 71, 75] (by decide +kernel) (by decide +kernel)) (goodIn_sub (fun _ h => List.mem_cons_of_mem _ (List.mem_append_right _ h)) (by decide +kernel))
set_option maxRecDepth 20000 in
theorem gX2_eat_X2_appleOf : GoodIn wsX2_eat (va_wsS RX2 58 yX2_appleOf wsX2_appleOf) := goodIn_app (goodIn_of _ (by decide +kernel)) ggX2_eat_X2_appleOf
set_option maxRecDepth 20000 in
theorem ggX2_eat_X2_bringUp : GoodIn wsX2_eat wsX2_bringUp := goodIn_r _ [37, 38, 39, 40, 41, 18, 42, 43, 25, 44, 45, 46, 29, 47, 48, 49, 50, 51, 52, 32, 53, 54, 55, 56, 33, 57, 58, 59, 60, 61, 62, 63, 64, 65, 72, 73, 74, 66, 67, 68, 69, 70, 71, 75] (by decide +kernel) (by decide +kernel)
set_option maxRecDepth 20000 in
theorem gX2_eat_X2_bringUp : GoodIn wsX2_eat (wsV RX2 54 RX2 yX2_bringUp wsX2_bringUp) := goodIn_app (goodIn_of _ (by decide +kernel)) ggX2_eat_X2_bringUp
theorem dX2_eat_0 : decode cX2_eat 0 = .ok (.aload_n 0, 1) := by decide +kernel
theorem dX2_eat_1 : decode cX2_eat 1 = .ok (.iload_n 1, 1) := by decide +kernel
theorem dX2_eat_2 : decode cX2_eat 2 = .ok (.invokevirtual 20, 3) := by decide +kernel
theorem dX2_eat_5 : decode cX2_eat 5 = .ok (.astore_n 3, 1) := by decide +kernel
theorem dX2_eat_6 : decode cX2_eat 6 = .ok (.aload_n 3, 1) := by decide +kernel
theorem dX2_eat_7 : decode cX2_eat 7 = .ok (.iload_n 2, 1) := by decide +kernel
theorem dX2_eat_8 : decode cX2_eat 8 = .ok (.invokestatic 58, 3) := by decide +kernel
theorem dX2_eat_11 : decode cX2_eat 11 = .ok (.astore 4, 2) := by decide +kernel
theorem dX2_eat_13 : decode cX2_eat 13 = .ok (.aload 4, 2) := by decide +kernel
theorem dX2_eat_15 : decode cX2_eat 15 = .ok (.dup, 1) := by decide +kernel
theorem dX2_eat_16 : decode cX2_eat 16 = .ok (.getfield 62, 3) := by decide +kernel
theorem dX2_eat_19 : decode cX2_eat 19 = .ok (.iconst 1, 1) := by decide +kernel
theorem dX2_eat_20 : decode cX2_eat 20 = .ok (.iadd, 1) := by decide +kernel
theorem dX2_eat_21 : decode cX2_eat 21 = .ok (.putfield 62, 3) := by decide +kernel
theorem dX2_eat_24 : decode cX2_eat 24 = .ok (.aload_n 0, 1) := by decide +kernel
theorem dX2_eat_25 : decode cX2_eat 25 = .ok (.aload_n 3, 1) := by decide +kernel
theorem dX2_eat_26 : decode cX2_eat 26 = .ok (.aload 4, 2) := by decide +kernel
theorem dX2_eat_28 : decode cX2_eat 28 = .ok (.invokevirtual 54, 3) := by decide +kernel
theorem dX2_eat_31 : decode cX2_eat 31 = .ok (.ireturn, 1) := by decide +kernel
set_option maxRecDepth 20000 in
theorem ggX2_pick_X2_treeOf : GoodIn wsX2_pick wsX2_treeOf := goodIn_ca (goodIn_r _ [8, 9, 10, 11, 91, 92, 93] (by decide +kernel) (by decide +kernel)) (goodIn_sub (fun _ h => List.mem_cons_of_mem _ (List.mem_append_left _ (List.mem_append_right _ h))) (by decide +kernel))
set_option maxRecDepth 20000 in
theorem gX2_pick_X2_treeOf : GoodIn wsX2_pick (wsV RX2 20 RX2 yX2_treeOf wsX2_treeOf) := goodIn_app (goodIn_of _ (by decide +kernel)) ggX2_pick_X2_treeOf
set_option maxRecDepth 20000 in
theorem ggX2_pick_X2_appleOf : GoodIn wsX2_pick wsX2_appleOf := goodIn_ca (goodIn_r _ [14, 15, 16, 17, 18, 19, 20, 21, 22, 23, 24, 25, 26, 27, 28, 29, 30, 31, 32, 33, 34, 35, 85, 86, 87, 88, 89, 90, 94] (by decide +kernel) (by decide +kernel)) (goodIn_sub (fun _ h => List.mem_cons_of_mem _ (List.mem_append_right _ h)) (by decide +kernel))
set_option maxRecDepth 20000 in
theorem gX2_pick_X2_appleOf : GoodIn wsX2_pick (va_wsS RX2 58 yX2_appleOf wsX2_appleOf) := goodIn_app (goodIn_of _ (by decide +kernel)) ggX2_pick_X2_appleOf
set_option maxRecDepth 20000 in
theorem ggX2_pick_X2_bringUp : GoodIn wsX2_pick wsX2_bringUp := goodIn_r _ [39, 40, 41, 42, 43, 20, 44, 45, 27, 46, 47, 48, 31, 49, 50, 51, 52, 53, 54, 34, 55, 56, 57, 58, 35, 59, 60, 61, 62, 63, 64, 65, 66, 67, 91, 92, 93, 85, 86, 87, 88, 89, 90, 94] (by decide +kernel) (by decide +kernel)
set_option maxRecDepth 20000 in
theorem gX2_pick_X2_bringUp : GoodIn wsX2_pick (wsV RX2 54 RX2 yX2_bringUp wsX2_bringUp) := goodIn_app (goodIn_of _ (by decide +kernel)) ggX2_pick_X2_bringUp
set_option maxRecDepth 20000 in
theorem ggX2_pick_X1_setTop : GoodIn wsX2_pick wsX1_setTop := goodIn_r _ [71, 27, 45, 94, 85, 86, 87, 88, 89, 90] (by decide +kernel) (by decide +kernel)
set_option maxRecDepth 20000 in
theorem gX2_pick_X1_setTop : GoodIn wsX2_pick (wsV RX2 70 RX1 yX1_setTop wsX1_setTop) := goodIn_app (goodIn_of _ (by decide +kernel)) ggX2_pick_X1_setTop
set_option maxRecDepth 20000 in
theorem ggX2_pick_X2_append : GoodIn wsX2_pick wsX2_append := goodIn_r _ [75, 76, 77, 78, 20, 79, 27, 80, 81, 82, 31, 83, 35, 68, 69, 70, 71, 45, 36, 37, 38, 7, 39, 40, 41, 42, 43, 44, 46, 47, 48, 49, 50, 51, 52, 53, 54, 34, 55, 56, 57, 58, 59, 60, 61, 62, 63, 64, 65, 66, 67, 84, 94, 85, 86, 87, 88, 89, 90, 91, 92, 93] (by decide +kernel) (by decide +kernel)
set_option maxRecDepth 20000 in
theorem gX2_pick_X2_append : GoodIn wsX2_pick (wsV RX2 76 RX2 yX2_append wsX2_append) := goodIn_app (goodIn_of _ (by decide +kernel)) ggX2_pick_X2_append
theorem dX2_pick_0 : decode cX2_pick 0 = .ok (.aload_n 0, 1) := by decide +kernel
theorem dX2_pick_1 : decode cX2_pick 1 = .ok (.iload_n 1, 1) := by decide +kernel
theorem dX2_pick_2 : decode cX2_pick 2 = .ok (.invokevirtual 20, 3) := by decide +kernel
theorem dX2_pick_5 : decode cX2_pick 5 = .ok (.astore_n 3, 1) := by decide +kernel
theorem dX2_pick_6 : decode cX2_pick 6 = .ok (.aload_n 3, 1) := by decide +kernel
theorem dX2_pick_7 : decode cX2_pick 7 = .ok (.iload_n 2, 1) := by decide +kernel
theorem dX2_pick_8 : decode cX2_pick 8 = .ok (.invokestatic 58, 3) := by decide +kernel
theorem dX2_pick_11 : decode cX2_pick 11 = .ok (.astore 4, 2) := by decide +kernel
theorem dX2_pick_13 : decode cX2_pick 13 = .ok (.aload_n 0, 1) := by decide +kernel
theorem dX2_pick_14 : decode cX2_pick 14 = .ok (.aload_n 3, 1) := by decide +kernel
theorem dX2_pick_15 : decode cX2_pick 15 = .ok (.aload 4, 2) := by decide +kernel
theorem dX2_pick_17 : decode cX2_pick 17 = .ok (.invokevirtual 54, 3) := by decide +kernel
theorem dX2_pick_20 : decode cX2_pick 20 = .ok (.pop, 1) := by decide +kernel
theorem dX2_pick_21 : decode cX2_pick 21 = .ok (.aload_n 3, 1) := by decide +kernel
theorem dX2_pick_22 : decode cX2_pick 22 = .ok (.aload 4, 2) := by decide +kernel
theorem dX2_pick_24 : decode cX2_pick 24 = .ok (.getfield 66, 3) := by decide +kernel
theorem dX2_pick_27 : decode cX2_pick 27 = .ok (.invokevirtual 70, 3) := by decide +kernel
theorem dX2_pick_30 : decode cX2_pick 30 = .ok (.aload_n 0, 1) := by decide +kernel
theorem dX2_pick_31 : decode cX2_pick 31 = .ok (.aload_n 3, 1) := by decide +kernel
theorem dX2_pick_32 : decode cX2_pick 32 = .ok (.aload 4, 2) := by decide +kernel
theorem dX2_pick_34 : decode cX2_pick 34 = .ok (.getfield 73, 3) := by decide +kernel
theorem dX2_pick_37 : decode cX2_pick 37 = .ok (.invokevirtual 76, 3) := by decide +kernel
theorem dX2_pick_40 : decode cX2_pick 40 = .ok (.aload 4, 2) := by decide +kernel
theorem dX2_pick_42 : decode cX2_pick 42 = .ok (.getfield 62, 3) := by decide +kernel
theorem dX2_pick_45 : decode cX2_pick 45 = .ok (.ireturn, 1) := by decide +kernel
set_option maxRecDepth 20000 in
theorem ggX2_split_X2_treeOf : GoodIn wsX2_split wsX2_treeOf := goodIn_ca (goodIn_r _ [9, 10, 11, 12, 98, 99, 100] (by decide +kernel) (by decide +kernel)) (goodIn_sub (fun _ h => List.mem_cons_of_mem _ (List.mem_append_left _ (List.mem_append_right _ h))) (by decide +kernel))
set_option maxRecDepth 20000 in
theorem gX2_split_X2_treeOf : GoodIn wsX2_split (wsV RX2 20 RX2 yX2_treeOf wsX2_treeOf) := goodIn_app (goodIn_of _ (by decide +kernel)) ggX2_split_X2_treeOf
set_option maxRecDepth 20000 in
theorem ggX2_split_X2_checkSize : GoodIn wsX2_split wsX2_checkSize := goodIn_ca (goodIn_r _ [15, 16, 17] (by decide +kernel) (by decide +kernel)) (goodIn_sub (fun _ h => List.mem_cons_of_mem _ (List.mem_append_right _ h)) (by decide +kernel))
set_option maxRecDepth 20000 in
theorem gX2_split_X2_checkSize : GoodIn wsX2_split (va_wsS RX2 24 yX2_checkSize wsX2_checkSize) := goodIn_app (goodIn_of _ (by decide +kernel)) ggX2_split_X2_checkSize
set_option maxRecDepth 20000 in
theorem ggX2_split_X1_greatestBelow : GoodIn wsX2_split wsX1_greatestBelow := goodIn_r _ [22, 23, 24, 25, 26, 21, 27, 28, 29, 30, 31, 32, 33, 34, 35, 36, 37, 38, 39, 40, 41, 92, 93, 94, 95, 96, 97, 91] (by decide +kernel) (by decide +kernel)
set_option maxRecDepth 20000 in
theorem gX2_split_X1_greatestBelow : GoodIn wsX2_split (wsV RX2 87 RX1 yX1_greatestBelow wsX1_greatestBelow) := goodIn_app (goodIn_of _ (by decide +kernel)) ggX2_split_X1_greatestBelow
set_option maxRecDepth 20000 in
theorem ggX2_split_X1_setTop : GoodIn wsX2_split wsX1_setTop := goodIn_r _ [45, 28, 46, 91, 92, 93, 94, 95, 96, 97] (by decide +kernel) (by decide +kernel)
set_option maxRecDepth 20000 in
theorem gX2_split_X1_setTop : GoodIn wsX2_split (wsV RX2 70 RX1 yX1_setTop wsX1_setTop) := goodIn_app (goodIn_of _ (by decide +kernel)) ggX2_split_X1_setTop
set_option maxRecDepth 20000 in
theorem ggX2_split_X2_bringUp : GoodIn wsX2_split wsX2_bringUp := goodIn_r _ [50, 51, 52, 53, 54, 21, 55, 46, 28, 56, 57, 58, 32, 59, 40, 60, 61, 62, 63, 34, 64, 65, 66, 67, 39, 68, 69, 70, 71, 72, 73, 74, 75, 76, 98, 99, 100, 92, 93, 94, 95, 96, 97, 91] (by decide +kernel) (by decide +kernel)
set_option maxRecDepth 20000 in
theorem gX2_split_X2_bringUp : GoodIn wsX2_split (wsV RX2 54 RX2 yX2_bringUp wsX2_bringUp) := goodIn_app (goodIn_of _ (by decide +kernel)) ggX2_split_X2_bringUp
set_option maxRecDepth 20000 in
theorem ggX2_split_X0_hangRight : GoodIn wsX2_split wsX0_hangRight := goodIn_r _ [76, 39, 40, 92, 93, 94, 95, 96, 97] (by decide +kernel) (by decide +kernel)
set_option maxRecDepth 20000 in
theorem gX2_split_X0_hangRight : GoodIn wsX2_split (wsV RX2 90 RX0 yX0_hangRight wsX0_hangRight) := goodIn_app (goodIn_of _ (by decide +kernel)) ggX2_split_X0_hangRight
set_option maxRecDepth 20000 in
theorem ggX2_split_X1_count : GoodIn wsX2_split wsX1_count := goodIn_r _ [81, 28, 82, 83, 84, 32, 85, 86, 87, 88, 89, 39, 41, 30, 31, 33, 34, 90, 36, 37, 38, 40, 91, 92, 93, 94, 95, 96, 97] (by decide +kernel) (by decide +kernel)
set_option maxRecDepth 20000 in
theorem gX2_split_X1_count : GoodIn wsX2_split (wsV RX2 93 RX1 yX1_count wsX1_count) := goodIn_app (goodIn_of _ (by decide +kernel)) ggX2_split_X1_count
theorem dX2_split_0 : decode cX2_split 0 = .ok (.aload_n 0, 1) := by decide +kernel
theorem dX2_split_1 : decode cX2_split 1 = .ok (.iload_n 1, 1) := by decide +kernel
theorem dX2_split_2 : decode cX2_split 2 = .ok (.invokevirtual 20, 3) := by decide +kernel
theorem dX2_split_5 : decode cX2_split 5 = .ok (.astore 4, 2) := by decide +kernel
theorem dX2_split_7 : decode cX2_split 7 = .ok (.aload_n 0, 1) := by decide +kernel
theorem dX2_split_8 : decode cX2_split 8 = .ok (.iload_n 3, 1) := by decide +kernel
theorem dX2_split_9 : decode cX2_split 9 = .ok (.invokevirtual 20, 3) := by decide +kernel
theorem dX2_split_12 : decode cX2_split 12 = .ok (.astore 5, 2) := by decide +kernel
theorem dX2_split_14 : decode cX2_split 14 = .ok (.iload_n 2, 1) := by decide +kernel
theorem dX2_split_15 : decode cX2_split 15 = .ok (.invokestatic 24, 3) := by decide +kernel
theorem dX2_split_18 : decode cX2_split 18 = .ok (.aload 5, 2) := by decide +kernel
theorem dX2_split_20 : decode cX2_split 20 = .ok (.aload 4, 2) := by decide +kernel
theorem dX2_split_22 : decode cX2_split 22 = .ok (.if_acmp .ne 13, 3) := by decide +kernel
theorem dX2_split_25 : decode cX2_split 25 = .ok (.new 32, 3) := by decide +kernel
theorem dX2_split_28 : decode cX2_split 28 = .ok (.dup, 1) := by decide +kernel
theorem dX2_split_29 : decode cX2_split 29 = .ok (.ldc 80, 2) := by decide +kernel
theorem dX2_split_31 : decode cX2_split 31 = .ok (.invokespecial 36, 3) := by decide +kernel
theorem dX2_split_34 : decode cX2_split 34 = .ok (.athrow, 1) := by decide +kernel
theorem dX2_split_35 : decode cX2_split 35 = .ok (.aload 5, 2) := by decide +kernel
theorem dX2_split_37 : decode cX2_split 37 = .ok (.getfield 82, 3) := by decide +kernel
theorem dX2_split_40 : decode cX2_split 40 = .ok (.ifnull 13, 3) := by decide +kernel
theorem dX2_split_43 : decode cX2_split 43 = .ok (.new 32, 3) := by decide +kernel
theorem dX2_split_46 : decode cX2_split 46 = .ok (.dup, 1) := by decide +kernel
theorem dX2_split_47 : decode cX2_split 47 = .ok (.ldc 85, 2) := by decide +kernel
theorem dX2_split_49 : decode cX2_split 49 = .ok (.invokespecial 36, 3) := by decide +kernel
theorem dX2_split_52 : decode cX2_split 52 = .ok (.athrow, 1) := by decide +kernel
theorem dX2_split_53 : decode cX2_split 53 = .ok (.aload 4, 2) := by decide +kernel
theorem dX2_split_55 : decode cX2_split 55 = .ok (.iload_n 2, 1) := by decide +kernel
theorem dX2_split_56 : decode cX2_split 56 = .ok (.invokevirtual 87, 3) := by decide +kernel
theorem dX2_split_59 : decode cX2_split 59 = .ok (.astore 6, 2) := by decide +kernel
theorem dX2_split_61 : decode cX2_split 61 = .ok (.aload 6, 2) := by decide +kernel
theorem dX2_split_63 : decode cX2_split 63 = .ok (.ifnonnull 22, 3) := by decide +kernel
theorem dX2_split_66 : decode cX2_split 66 = .ok (.aload 5, 2) := by decide +kernel
theorem dX2_split_68 : decode cX2_split 68 = .ok (.aload 4, 2) := by decide +kernel
theorem dX2_split_70 : decode cX2_split 70 = .ok (.getfield 82, 3) := by decide +kernel
theorem dX2_split_73 : decode cX2_split 73 = .ok (.invokevirtual 70, 3) := by decide +kernel
theorem dX2_split_76 : decode cX2_split 76 = .ok (.aload 4, 2) := by decide +kernel
theorem dX2_split_78 : decode cX2_split 78 = .ok (.aconst_null, 1) := by decide +kernel
theorem dX2_split_79 : decode cX2_split 79 = .ok (.invokevirtual 70, 3) := by decide +kernel
theorem dX2_split_82 : decode cX2_split 82 = .ok (.goto 28, 3) := by decide +kernel
theorem dX2_split_85 : decode cX2_split 85 = .ok (.aload_n 0, 1) := by decide +kernel
theorem dX2_split_86 : decode cX2_split 86 = .ok (.aload 4, 2) := by decide +kernel
theorem dX2_split_88 : decode cX2_split 88 = .ok (.aload 6, 2) := by decide +kernel
theorem dX2_split_90 : decode cX2_split 90 = .ok (.invokevirtual 54, 3) := by decide +kernel
theorem dX2_split_93 : decode cX2_split 93 = .ok (.pop, 1) := by decide +kernel
theorem dX2_split_94 : decode cX2_split 94 = .ok (.aload 5, 2) := by decide +kernel
theorem dX2_split_96 : decode cX2_split 96 = .ok (.aload 6, 2) := by decide +kernel
theorem dX2_split_98 : decode cX2_split 98 = .ok (.getfield 73, 3) := by decide +kernel
theorem dX2_split_101 : decode cX2_split 101 = .ok (.invokevirtual 70, 3) := by decide +kernel
theorem dX2_split_104 : decode cX2_split 104 = .ok (.aload 6, 2) := by decide +kernel
theorem dX2_split_106 : decode cX2_split 106 = .ok (.aconst_null, 1) := by decide +kernel
theorem dX2_split_107 : decode cX2_split 107 = .ok (.invokevirtual 90, 3) := by decide +kernel
theorem dX2_split_110 : decode cX2_split 110 = .ok (.aload 5, 2) := by decide +kernel
theorem dX2_split_112 : decode cX2_split 112 = .ok (.invokevirtual 93, 3) := by decide +kernel
theorem dX2_split_115 : decode cX2_split 115 = .ok (.ireturn, 1) := by decide +kernel
set_option maxRecDepth 20000 in
theorem ggX2_join_X2_treeOf : GoodIn wsX2_join wsX2_treeOf := goodIn_ca (goodIn_r _ [8, 9, 10, 11, 93, 94, 95] (by decide +kernel) (by decide +kernel)) (goodIn_sub (fun _ h => List.mem_cons_of_mem _ (List.mem_append_right _ h)) (by decide +kernel))
set_option maxRecDepth 20000 in
theorem gX2_join_X2_treeOf : GoodIn wsX2_join (wsV RX2 20 RX2 yX2_treeOf wsX2_treeOf) := goodIn_app (goodIn_of _ (by decide +kernel)) ggX2_join_X2_treeOf
set_option maxRecDepth 20000 in
theorem ggX2_join_X2_mayJoin : GoodIn wsX2_join wsX2_mayJoin := goodIn_r _ [14, 15, 16, 17, 18, 19, 20, 21, 22, 23, 24, 25, 26, 27, 28, 29, 30, 31, 32, 33, 34, 35, 36, 96, 97, 98, 99, 100, 101, 92] (by decide +kernel) (by decide +kernel)
set_option maxRecDepth 20000 in
theorem gX2_join_X2_mayJoin : GoodIn wsX2_join (va_wsS RX2 96 yX2_mayJoin wsX2_mayJoin) := goodIn_app (goodIn_of _ (by decide +kernel)) ggX2_join_X2_mayJoin
set_option maxRecDepth 20000 in
theorem ggX2_join_X2_append : GoodIn wsX2_join wsX2_append := goodIn_r _ [40, 16, 17, 18, 19, 20, 21, 22, 23, 24, 25, 26, 27, 41, 42, 43, 44, 45, 46, 47, 48, 7, 49, 50, 51, 52, 53, 54, 55, 56, 57, 58, 59, 60, 61, 62, 63, 36, 64, 65, 66, 67, 68, 69, 70, 71, 72, 73, 74, 75, 76, 77, 92, 96, 97, 98, 99, 100, 101, 93, 94, 95] (by decide +kernel) (by decide +kernel)
set_option maxRecDepth 20000 in
theorem gX2_join_X2_append : GoodIn wsX2_join (wsV RX2 76 RX2 yX2_append wsX2_append) := goodIn_app (goodIn_of _ (by decide +kernel)) ggX2_join_X2_append
set_option maxRecDepth 20000 in
theorem ggX2_join_X1_setTop : GoodIn wsX2_join wsX1_setTop := goodIn_r _ [44, 21, 45, 92, 96, 97, 98, 99, 100, 101] (by decide +kernel) (by decide +kernel)
set_option maxRecDepth 20000 in
theorem gX2_join_X1_setTop : GoodIn wsX2_join (wsV RX2 70 RX1 yX1_setTop wsX1_setTop) := goodIn_app (goodIn_of _ (by decide +kernel)) ggX2_join_X1_setTop
set_option maxRecDepth 20000 in
theorem ggX2_join_X1_count : GoodIn wsX2_join wsX1_count := goodIn_r _ [81, 21, 82, 83, 84, 25, 85, 86, 23, 24, 26, 27, 87, 33, 34, 35, 36, 88, 89, 90, 91, 59, 92, 96, 97, 98, 99, 100, 101] (by decide +kernel) (by decide +kernel)
set_option maxRecDepth 20000 in
theorem gX2_join_X1_count : GoodIn wsX2_join (wsV RX2 93 RX1 yX1_count wsX1_count) := goodIn_app (goodIn_of _ (by decide +kernel)) ggX2_join_X1_count
theorem dX2_join_0 : decode cX2_join 0 = .ok (.aload_n 0, 1) := by decide +kernel
theorem dX2_join_1 : decode cX2_join 1 = .ok (.iload_n 1, 1) := by decide +kernel
theorem dX2_join_2 : decode cX2_join 2 = .ok (.invokevirtual 20, 3) := by decide +kernel
theorem dX2_join_5 : decode cX2_join 5 = .ok (.astore_n 3, 1) := by decide +kernel
theorem dX2_join_6 : decode cX2_join 6 = .ok (.aload_n 0, 1) := by decide +kernel
theorem dX2_join_7 : decode cX2_join 7 = .ok (.iload_n 2, 1) := by decide +kernel
theorem dX2_join_8 : decode cX2_join 8 = .ok (.invokevirtual 20, 3) := by decide +kernel
theorem dX2_join_11 : decode cX2_join 11 = .ok (.astore 4, 2) := by decide +kernel
theorem dX2_join_13 : decode cX2_join 13 = .ok (.aload_n 3, 1) := by decide +kernel
theorem dX2_join_14 : decode cX2_join 14 = .ok (.aload 4, 2) := by decide +kernel
theorem dX2_join_16 : decode cX2_join 16 = .ok (.invokestatic 96, 3) := by decide +kernel
theorem dX2_join_19 : decode cX2_join 19 = .ok (.ifCond .ne 13, 3) := by decide +kernel
theorem dX2_join_22 : decode cX2_join 22 = .ok (.new 32, 3) := by decide +kernel
theorem dX2_join_25 : decode cX2_join 25 = .ok (.dup, 1) := by decide +kernel
theorem dX2_join_26 : decode cX2_join 26 = .ok (.ldc 100, 2) := by decide +kernel
theorem dX2_join_28 : decode cX2_join 28 = .ok (.invokespecial 36, 3) := by decide +kernel
theorem dX2_join_31 : decode cX2_join 31 = .ok (.athrow, 1) := by decide +kernel
theorem dX2_join_32 : decode cX2_join 32 = .ok (.aload_n 0, 1) := by decide +kernel
theorem dX2_join_33 : decode cX2_join 33 = .ok (.aload_n 3, 1) := by decide +kernel
theorem dX2_join_34 : decode cX2_join 34 = .ok (.aload 4, 2) := by decide +kernel
theorem dX2_join_36 : decode cX2_join 36 = .ok (.getfield 82, 3) := by decide +kernel
theorem dX2_join_39 : decode cX2_join 39 = .ok (.invokevirtual 76, 3) := by decide +kernel
theorem dX2_join_42 : decode cX2_join 42 = .ok (.aload 4, 2) := by decide +kernel
theorem dX2_join_44 : decode cX2_join 44 = .ok (.aconst_null, 1) := by decide +kernel
theorem dX2_join_45 : decode cX2_join 45 = .ok (.invokevirtual 70, 3) := by decide +kernel
theorem dX2_join_48 : decode cX2_join 48 = .ok (.aload_n 3, 1) := by decide +kernel
theorem dX2_join_49 : decode cX2_join 49 = .ok (.invokevirtual 93, 3) := by decide +kernel
theorem dX2_join_52 : decode cX2_join 52 = .ok (.ireturn, 1) := by decide +kernel
set_option maxRecDepth 20000 in
theorem ggX2_apples_X1_count : GoodIn wsX2_apples wsX1_count := goodIn_r _ [6, 7, 8, 9, 10, 11, 12, 13, 14, 15, 16, 17, 18, 19, 20, 21, 22, 23, 24, 25, 26, 27, 31, 32, 33, 34, 35, 36, 37] (by decide +kernel) (by decide +kernel)
set_option maxRecDepth 20000 in
theorem gX2_apples_X1_count : GoodIn wsX2_apples (wsV RX2 93 RX1 yX1_count wsX1_count) := goodIn_app (goodIn_of _ (by decide +kernel)) ggX2_apples_X1_count
theorem dX2_apples_0 : decode cX2_apples 0 = .ok (.iconst 0, 1) := by decide +kernel
theorem dX2_apples_1 : decode cX2_apples 1 = .ok (.istore_n 1, 1) := by decide +kernel
theorem dX2_apples_2 : decode cX2_apples 2 = .ok (.aload_n 0, 1) := by decide +kernel
theorem dX2_apples_3 : decode cX2_apples 3 = .ok (.getfield 11, 3) := by decide +kernel
theorem dX2_apples_6 : decode cX2_apples 6 = .ok (.astore_n 2, 1) := by decide +kernel
theorem dX2_apples_7 : decode cX2_apples 7 = .ok (.aload_n 2, 1) := by decide +kernel
theorem dX2_apples_8 : decode cX2_apples 8 = .ok (.arraylength, 1) := by decide +kernel
theorem dX2_apples_9 : decode cX2_apples 9 = .ok (.istore_n 3, 1) := by decide +kernel
theorem dX2_apples_10 : decode cX2_apples 10 = .ok (.iconst 0, 1) := by decide +kernel
theorem dX2_apples_11 : decode cX2_apples 11 = .ok (.istore 4, 2) := by decide +kernel
theorem dX2_apples_13 : decode cX2_apples 13 = .ok (.iload 4, 2) := by decide +kernel
theorem dX2_apples_15 : decode cX2_apples 15 = .ok (.iload_n 3, 1) := by decide +kernel
theorem dX2_apples_16 : decode cX2_apples 16 = .ok (.if_icmp .ge 23, 3) := by decide +kernel
theorem dX2_apples_19 : decode cX2_apples 19 = .ok (.aload_n 2, 1) := by decide +kernel
theorem dX2_apples_20 : decode cX2_apples 20 = .ok (.iload 4, 2) := by decide +kernel
theorem dX2_apples_22 : decode cX2_apples 22 = .ok (.aaload, 1) := by decide +kernel
theorem dX2_apples_23 : decode cX2_apples 23 = .ok (.astore 5, 2) := by decide +kernel
theorem dX2_apples_25 : decode cX2_apples 25 = .ok (.iload_n 1, 1) := by decide +kernel
theorem dX2_apples_26 : decode cX2_apples 26 = .ok (.aload 5, 2) := by decide +kernel
theorem dX2_apples_28 : decode cX2_apples 28 = .ok (.invokevirtual 93, 3) := by decide +kernel
theorem dX2_apples_31 : decode cX2_apples 31 = .ok (.iadd, 1) := by decide +kernel
theorem dX2_apples_32 : decode cX2_apples 32 = .ok (.istore_n 1, 1) := by decide +kernel
theorem dX2_apples_33 : decode cX2_apples 33 = .ok (.iinc 4 1, 3) := by decide +kernel
theorem dX2_apples_36 : decode cX2_apples 36 = .ok (.goto (-23), 3) := by decide +kernel
theorem dX2_apples_39 : decode cX2_apples 39 = .ok (.iload_n 1, 1) := by decide +kernel
theorem dX2_apples_40 : decode cX2_apples 40 = .ok (.ireturn, 1) := by decide +kernel
theorem dX2_turnings_0 : decode cX2_turnings 0 = .ok (.aload_n 0, 1) := by decide +kernel
theorem dX2_turnings_1 : decode cX2_turnings 1 = .ok (.getfield 102, 3) := by decide +kernel
theorem dX2_turnings_4 : decode cX2_turnings 4 = .ok (.ireturn, 1) := by decide +kernel
set_option maxRecDepth 20000 in
theorem ggX2_sizeOf_X2_treeOf : GoodIn wsX2_sizeOf wsX2_treeOf := goodIn_ca (goodIn_r _ [5, 6, 7, 8, 35, 36, 37] (by decide +kernel) (by decide +kernel)) (goodIn_sub (fun _ h => List.mem_cons_of_mem _ (List.mem_append_right _ h)) (by decide +kernel))
set_option maxRecDepth 20000 in
theorem gX2_sizeOf_X2_treeOf : GoodIn wsX2_sizeOf (wsV RX2 20 RX2 yX2_treeOf wsX2_treeOf) := goodIn_app (goodIn_of _ (by decide +kernel)) ggX2_sizeOf_X2_treeOf
set_option maxRecDepth 20000 in
theorem ggX2_sizeOf_X1_count : GoodIn wsX2_sizeOf wsX1_count := goodIn_r _ [13, 14, 15, 16, 17, 18, 19, 20, 21, 22, 23, 24, 25, 26, 27, 28, 29, 30, 31, 32, 33, 34, 38, 39, 40, 41, 42, 43, 44] (by decide +kernel) (by decide +kernel)
set_option maxRecDepth 20000 in
theorem gX2_sizeOf_X1_count : GoodIn wsX2_sizeOf (wsV RX2 93 RX1 yX1_count wsX1_count) := goodIn_app (goodIn_of _ (by decide +kernel)) ggX2_sizeOf_X1_count
theorem dX2_sizeOf_0 : decode cX2_sizeOf 0 = .ok (.aload_n 0, 1) := by decide +kernel
theorem dX2_sizeOf_1 : decode cX2_sizeOf 1 = .ok (.iload_n 1, 1) := by decide +kernel
theorem dX2_sizeOf_2 : decode cX2_sizeOf 2 = .ok (.invokevirtual 20, 3) := by decide +kernel
theorem dX2_sizeOf_5 : decode cX2_sizeOf 5 = .ok (.invokevirtual 93, 3) := by decide +kernel
theorem dX2_sizeOf_8 : decode cX2_sizeOf 8 = .ok (.ireturn, 1) := by decide +kernel
set_option maxRecDepth 20000 in
theorem ggX2_top_X2_treeOf : GoodIn wsX2_top wsX2_treeOf := goodIn_ca (goodIn_r _ [6, 7, 8, 9, 15, 16, 17] (by decide +kernel) (by decide +kernel)) (goodIn_sub (fun _ h => List.mem_cons_of_mem _ (List.mem_append_right _ h)) (by decide +kernel))
set_option maxRecDepth 20000 in
theorem gX2_top_X2_treeOf : GoodIn wsX2_top (wsV RX2 20 RX2 yX2_treeOf wsX2_treeOf) := goodIn_app (goodIn_of _ (by decide +kernel)) ggX2_top_X2_treeOf
set_option maxRecDepth 20000 in
theorem ggX2_top_X2_sizeOrNone : GoodIn wsX2_top wsX2_sizeOrNone := goodIn_r _ [12, 13, 18, 19, 20, 21, 22, 23] (by decide +kernel) (by decide +kernel)
set_option maxRecDepth 20000 in
theorem gX2_top_X2_sizeOrNone : GoodIn wsX2_top (va_wsS RX2 105 yX2_sizeOrNone wsX2_sizeOrNone) := goodIn_app (goodIn_of _ (by decide +kernel)) ggX2_top_X2_sizeOrNone
theorem dX2_top_0 : decode cX2_top 0 = .ok (.aload_n 0, 1) := by decide +kernel
theorem dX2_top_1 : decode cX2_top 1 = .ok (.iload_n 1, 1) := by decide +kernel
theorem dX2_top_2 : decode cX2_top 2 = .ok (.invokevirtual 20, 3) := by decide +kernel
theorem dX2_top_5 : decode cX2_top 5 = .ok (.getfield 82, 3) := by decide +kernel
theorem dX2_top_8 : decode cX2_top 8 = .ok (.invokestatic 105, 3) := by decide +kernel
theorem dX2_top_11 : decode cX2_top 11 = .ok (.ireturn, 1) := by decide +kernel
set_option maxRecDepth 20000 in
theorem ggX2_height_X2_treeOf : GoodIn wsX2_height wsX2_treeOf := goodIn_ca (goodIn_r _ [5, 6, 7, 8, 40, 41, 42] (by decide +kernel) (by decide +kernel)) (goodIn_sub (fun _ h => List.mem_cons_of_mem _ (List.mem_append_right _ h)) (by decide +kernel))
set_option maxRecDepth 20000 in
theorem gX2_height_X2_treeOf : GoodIn wsX2_height (wsV RX2 20 RX2 yX2_treeOf wsX2_treeOf) := goodIn_app (goodIn_of _ (by decide +kernel)) ggX2_height_X2_treeOf
set_option maxRecDepth 20000 in
theorem ggX2_height_X1_levels : GoodIn wsX2_height wsX1_levels := goodIn_r _ [13, 14, 15, 16, 17, 18, 19, 20, 12, 21, 22, 23, 24, 25, 26, 27, 28, 29, 30, 31, 32, 33, 34, 35, 36, 37, 38, 39, 43, 44, 45, 46, 47, 48, 49] (by decide +kernel) (by decide +kernel)
set_option maxRecDepth 20000 in
theorem gX2_height_X1_levels : GoodIn wsX2_height (wsV RX2 109 RX1 yX1_levels wsX1_levels) := goodIn_app (goodIn_of _ (by decide +kernel)) ggX2_height_X1_levels
theorem dX2_height_0 : decode cX2_height 0 = .ok (.aload_n 0, 1) := by decide +kernel
theorem dX2_height_1 : decode cX2_height 1 = .ok (.iload_n 1, 1) := by decide +kernel
theorem dX2_height_2 : decode cX2_height 2 = .ok (.invokevirtual 20, 3) := by decide +kernel
theorem dX2_height_5 : decode cX2_height 5 = .ok (.invokevirtual 109, 3) := by decide +kernel
theorem dX2_height_8 : decode cX2_height 8 = .ok (.ireturn, 1) := by decide +kernel
set_option maxRecDepth 20000 in
theorem ggX2_leastHeight_X2_treeOf : GoodIn wsX2_leastHeight wsX2_treeOf := goodIn_ca (goodIn_r _ [5, 6, 7, 8, 35, 36, 37] (by decide +kernel) (by decide +kernel)) (goodIn_sub (fun _ h => List.mem_cons_of_mem _ (List.mem_append_right _ h)) (by decide +kernel))
set_option maxRecDepth 20000 in
theorem gX2_leastHeight_X2_treeOf : GoodIn wsX2_leastHeight (wsV RX2 20 RX2 yX2_treeOf wsX2_treeOf) := goodIn_app (goodIn_of _ (by decide +kernel)) ggX2_leastHeight_X2_treeOf
set_option maxRecDepth 20000 in
theorem ggX2_leastHeight_X1_count : GoodIn wsX2_leastHeight wsX1_count := goodIn_r _ [13, 14, 15, 16, 17, 18, 19, 20, 21, 22, 23, 24, 25, 26, 27, 28, 29, 30, 31, 32, 33, 34, 38, 39, 40, 41, 42, 43, 44] (by decide +kernel) (by decide +kernel)
set_option maxRecDepth 20000 in
theorem gX2_leastHeight_X1_count : GoodIn wsX2_leastHeight (wsV RX2 93 RX1 yX1_count wsX1_count) := goodIn_app (goodIn_of _ (by decide +kernel)) ggX2_leastHeight_X1_count
theorem dX2_leastHeight_0 : decode cX2_leastHeight 0 = .ok (.aload_n 0, 1) := by decide +kernel
theorem dX2_leastHeight_1 : decode cX2_leastHeight 1 = .ok (.iload_n 1, 1) := by decide +kernel
theorem dX2_leastHeight_2 : decode cX2_leastHeight 2 = .ok (.invokevirtual 20, 3) := by decide +kernel
theorem dX2_leastHeight_5 : decode cX2_leastHeight 5 = .ok (.invokevirtual 93, 3) := by decide +kernel
theorem dX2_leastHeight_8 : decode cX2_leastHeight 8 = .ok (.istore_n 2, 1) := by decide +kernel
theorem dX2_leastHeight_9 : decode cX2_leastHeight 9 = .ok (.iconst 0, 1) := by decide +kernel
theorem dX2_leastHeight_10 : decode cX2_leastHeight 10 = .ok (.istore_n 3, 1) := by decide +kernel
theorem dX2_leastHeight_11 : decode cX2_leastHeight 11 = .ok (.iconst 0, 1) := by decide +kernel
theorem dX2_leastHeight_12 : decode cX2_leastHeight 12 = .ok (.istore 4, 2) := by decide +kernel
theorem dX2_leastHeight_14 : decode cX2_leastHeight 14 = .ok (.iload 4, 2) := by decide +kernel
theorem dX2_leastHeight_16 : decode cX2_leastHeight 16 = .ok (.iload_n 2, 1) := by decide +kernel
theorem dX2_leastHeight_17 : decode cX2_leastHeight 17 = .ok (.if_icmp .ge 17, 3) := by decide +kernel
theorem dX2_leastHeight_20 : decode cX2_leastHeight 20 = .ok (.iinc 3 1, 3) := by decide +kernel
theorem dX2_leastHeight_23 : decode cX2_leastHeight 23 = .ok (.iconst 2, 1) := by decide +kernel
theorem dX2_leastHeight_24 : decode cX2_leastHeight 24 = .ok (.iload 4, 2) := by decide +kernel
theorem dX2_leastHeight_26 : decode cX2_leastHeight 26 = .ok (.imul, 1) := by decide +kernel
theorem dX2_leastHeight_27 : decode cX2_leastHeight 27 = .ok (.iconst 1, 1) := by decide +kernel
theorem dX2_leastHeight_28 : decode cX2_leastHeight 28 = .ok (.iadd, 1) := by decide +kernel
theorem dX2_leastHeight_29 : decode cX2_leastHeight 29 = .ok (.istore 4, 2) := by decide +kernel
theorem dX2_leastHeight_31 : decode cX2_leastHeight 31 = .ok (.goto (-17), 3) := by decide +kernel
theorem dX2_leastHeight_34 : decode cX2_leastHeight 34 = .ok (.iload_n 3, 1) := by decide +kernel
theorem dX2_leastHeight_35 : decode cX2_leastHeight 35 = .ok (.ireturn, 1) := by decide +kernel
set_option maxRecDepth 20000 in
theorem ggX2_depths_X2_treeOf : GoodIn wsX2_depths wsX2_treeOf := goodIn_ca (goodIn_r _ [5, 6, 7, 8, 36, 37, 38] (by decide +kernel) (by decide +kernel)) (goodIn_sub (fun _ h => List.mem_cons_of_mem _ (List.mem_append_right _ h)) (by decide +kernel))
set_option maxRecDepth 20000 in
theorem gX2_depths_X2_treeOf : GoodIn wsX2_depths (wsV RX2 20 RX2 yX2_treeOf wsX2_treeOf) := goodIn_app (goodIn_of _ (by decide +kernel)) ggX2_depths_X2_treeOf
set_option maxRecDepth 20000 in
theorem ggX2_depths_X1_depthSum : GoodIn wsX2_depths wsX1_depthSum := goodIn_r _ [13, 14, 15, 16, 12, 17, 18, 19, 20, 21, 22, 23, 24, 25, 26, 27, 28, 29, 30, 31, 32, 33, 34, 35, 39, 40, 41, 42, 43, 44, 45] (by decide +kernel) (by decide +kernel)
set_option maxRecDepth 20000 in
theorem gX2_depths_X1_depthSum : GoodIn wsX2_depths (wsV RX2 112 RX1 yX1_depthSum wsX1_depthSum) := goodIn_app (goodIn_of _ (by decide +kernel)) ggX2_depths_X1_depthSum
theorem dX2_depths_0 : decode cX2_depths 0 = .ok (.aload_n 0, 1) := by decide +kernel
theorem dX2_depths_1 : decode cX2_depths 1 = .ok (.iload_n 1, 1) := by decide +kernel
theorem dX2_depths_2 : decode cX2_depths 2 = .ok (.invokevirtual 20, 3) := by decide +kernel
theorem dX2_depths_5 : decode cX2_depths 5 = .ok (.invokevirtual 112, 3) := by decide +kernel
theorem dX2_depths_8 : decode cX2_depths 8 = .ok (.ireturn, 1) := by decide +kernel
set_option maxRecDepth 20000 in
theorem ggX2_smallest_X2_treeOf : GoodIn wsX2_smallest wsX2_treeOf := goodIn_ca (goodIn_r _ [5, 6, 7, 8, 25, 26, 27] (by decide +kernel) (by decide +kernel)) (goodIn_sub (fun _ h => List.mem_cons_of_mem _ (List.mem_append_right _ h)) (by decide +kernel))
set_option maxRecDepth 20000 in
theorem gX2_smallest_X2_treeOf : GoodIn wsX2_smallest (wsV RX2 20 RX2 yX2_treeOf wsX2_treeOf) := goodIn_app (goodIn_of _ (by decide +kernel)) ggX2_smallest_X2_treeOf
set_option maxRecDepth 20000 in
theorem ggX2_smallest_X1_first : GoodIn wsX2_smallest wsX1_first := goodIn_r _ [13, 14, 15, 16, 17, 18, 19, 20, 28, 29, 30, 31, 32, 33, 34] (by decide +kernel) (by decide +kernel)
set_option maxRecDepth 20000 in
theorem gX2_smallest_X1_first : GoodIn wsX2_smallest (wsV RX2 115 RX1 yX1_first wsX1_first) := goodIn_app (goodIn_of _ (by decide +kernel)) ggX2_smallest_X1_first
set_option maxRecDepth 20000 in
theorem ggX2_smallest_X2_sizeOrNone : GoodIn wsX2_smallest wsX2_sizeOrNone := goodIn_r _ [23, 24, 29, 30, 31, 32, 33, 34] (by decide +kernel) (by decide +kernel)
set_option maxRecDepth 20000 in
theorem gX2_smallest_X2_sizeOrNone : GoodIn wsX2_smallest (va_wsS RX2 105 yX2_sizeOrNone wsX2_sizeOrNone) := goodIn_app (goodIn_of _ (by decide +kernel)) ggX2_smallest_X2_sizeOrNone
theorem dX2_smallest_0 : decode cX2_smallest 0 = .ok (.aload_n 0, 1) := by decide +kernel
theorem dX2_smallest_1 : decode cX2_smallest 1 = .ok (.iload_n 1, 1) := by decide +kernel
theorem dX2_smallest_2 : decode cX2_smallest 2 = .ok (.invokevirtual 20, 3) := by decide +kernel
theorem dX2_smallest_5 : decode cX2_smallest 5 = .ok (.invokevirtual 115, 3) := by decide +kernel
theorem dX2_smallest_8 : decode cX2_smallest 8 = .ok (.invokestatic 105, 3) := by decide +kernel
theorem dX2_smallest_11 : decode cX2_smallest 11 = .ok (.ireturn, 1) := by decide +kernel
set_option maxRecDepth 20000 in
theorem ggX2_greatest_X2_treeOf : GoodIn wsX2_greatest wsX2_treeOf := goodIn_ca (goodIn_r _ [5, 6, 7, 8, 25, 26, 27] (by decide +kernel) (by decide +kernel)) (goodIn_sub (fun _ h => List.mem_cons_of_mem _ (List.mem_append_right _ h)) (by decide +kernel))
set_option maxRecDepth 20000 in
theorem gX2_greatest_X2_treeOf : GoodIn wsX2_greatest (wsV RX2 20 RX2 yX2_treeOf wsX2_treeOf) := goodIn_app (goodIn_of _ (by decide +kernel)) ggX2_greatest_X2_treeOf
set_option maxRecDepth 20000 in
theorem ggX2_greatest_X1_last : GoodIn wsX2_greatest wsX1_last := goodIn_r _ [13, 14, 15, 16, 17, 18, 19, 20, 28, 29, 30, 31, 32, 33, 34] (by decide +kernel) (by decide +kernel)
set_option maxRecDepth 20000 in
theorem gX2_greatest_X1_last : GoodIn wsX2_greatest (wsV RX2 119 RX1 yX1_last wsX1_last) := goodIn_app (goodIn_of _ (by decide +kernel)) ggX2_greatest_X1_last
set_option maxRecDepth 20000 in
theorem ggX2_greatest_X2_sizeOrNone : GoodIn wsX2_greatest wsX2_sizeOrNone := goodIn_r _ [23, 24, 29, 30, 31, 32, 33, 34] (by decide +kernel) (by decide +kernel)
set_option maxRecDepth 20000 in
theorem gX2_greatest_X2_sizeOrNone : GoodIn wsX2_greatest (va_wsS RX2 105 yX2_sizeOrNone wsX2_sizeOrNone) := goodIn_app (goodIn_of _ (by decide +kernel)) ggX2_greatest_X2_sizeOrNone
theorem dX2_greatest_0 : decode cX2_greatest 0 = .ok (.aload_n 0, 1) := by decide +kernel
theorem dX2_greatest_1 : decode cX2_greatest 1 = .ok (.iload_n 1, 1) := by decide +kernel
theorem dX2_greatest_2 : decode cX2_greatest 2 = .ok (.invokevirtual 20, 3) := by decide +kernel
theorem dX2_greatest_5 : decode cX2_greatest 5 = .ok (.invokevirtual 119, 3) := by decide +kernel
theorem dX2_greatest_8 : decode cX2_greatest 8 = .ok (.invokestatic 105, 3) := by decide +kernel
theorem dX2_greatest_11 : decode cX2_greatest 11 = .ok (.ireturn, 1) := by decide +kernel
set_option maxRecDepth 20000 in
theorem ggX2_inOrder_X2_treeOf : GoodIn wsX2_inOrder wsX2_treeOf := goodIn_ca (goodIn_r _ [8, 1, 2, 9, 39, 40, 41] (by decide +kernel) (by decide +kernel)) (goodIn_sub (fun _ h => List.mem_cons_of_mem _ (List.mem_append_right _ h)) (by decide +kernel))
set_option maxRecDepth 20000 in
theorem gX2_inOrder_X2_treeOf : GoodIn wsX2_inOrder (wsV RX2 20 RX2 yX2_treeOf wsX2_treeOf) := goodIn_app (goodIn_of _ (by decide +kernel)) ggX2_inOrder_X2_treeOf
set_option maxRecDepth 20000 in
theorem ggX2_inOrder_X1_at : GoodIn wsX2_inOrder wsX1_at := goodIn_r _ [14, 15, 16, 17, 13, 18, 19, 20, 21, 22, 23, 24, 25, 26, 27, 28, 29, 30, 31, 32, 42, 33, 34, 35, 36, 37, 38] (by decide +kernel) (by decide +kernel)
set_option maxRecDepth 20000 in
theorem gX2_inOrder_X1_at : GoodIn wsX2_inOrder (wsV RX2 122 RX1 yX1_at wsX1_at) := goodIn_app (goodIn_of _ (by decide +kernel)) ggX2_inOrder_X1_at
theorem dX2_inOrder_0 : decode cX2_inOrder 0 = .ok (.aload_n 0, 1) := by decide +kernel
theorem dX2_inOrder_1 : decode cX2_inOrder 1 = .ok (.iload_n 1, 1) := by decide +kernel
theorem dX2_inOrder_2 : decode cX2_inOrder 2 = .ok (.invokevirtual 20, 3) := by decide +kernel
theorem dX2_inOrder_5 : decode cX2_inOrder 5 = .ok (.iload_n 2, 1) := by decide +kernel
theorem dX2_inOrder_6 : decode cX2_inOrder 6 = .ok (.invokevirtual 122, 3) := by decide +kernel
theorem dX2_inOrder_9 : decode cX2_inOrder 9 = .ok (.astore_n 3, 1) := by decide +kernel
theorem dX2_inOrder_10 : decode cX2_inOrder 10 = .ok (.aload_n 3, 1) := by decide +kernel
theorem dX2_inOrder_11 : decode cX2_inOrder 11 = .ok (.ifnonnull 13, 3) := by decide +kernel
theorem dX2_inOrder_14 : decode cX2_inOrder 14 = .ok (.new 125, 3) := by decide +kernel
theorem dX2_inOrder_17 : decode cX2_inOrder 17 = .ok (.dup, 1) := by decide +kernel
theorem dX2_inOrder_18 : decode cX2_inOrder 18 = .ok (.ldc 127, 2) := by decide +kernel
theorem dX2_inOrder_20 : decode cX2_inOrder 20 = .ok (.invokespecial 129, 3) := by decide +kernel
theorem dX2_inOrder_23 : decode cX2_inOrder 23 = .ok (.athrow, 1) := by decide +kernel
theorem dX2_inOrder_24 : decode cX2_inOrder 24 = .ok (.aload_n 3, 1) := by decide +kernel
theorem dX2_inOrder_25 : decode cX2_inOrder 25 = .ok (.getfield 130, 3) := by decide +kernel
theorem dX2_inOrder_28 : decode cX2_inOrder 28 = .ok (.ireturn, 1) := by decide +kernel
set_option maxRecDepth 20000 in
theorem ggX2_leaves_X2_treeOf : GoodIn wsX2_leaves wsX2_treeOf := goodIn_ca (goodIn_r _ [5, 6, 7, 8, 34, 35, 36] (by decide +kernel) (by decide +kernel)) (goodIn_sub (fun _ h => List.mem_cons_of_mem _ (List.mem_append_right _ h)) (by decide +kernel))
set_option maxRecDepth 20000 in
theorem gX2_leaves_X2_treeOf : GoodIn wsX2_leaves (wsV RX2 20 RX2 yX2_treeOf wsX2_treeOf) := goodIn_app (goodIn_of _ (by decide +kernel)) ggX2_leaves_X2_treeOf
set_option maxRecDepth 20000 in
theorem ggX2_leaves_X1_leafCount : GoodIn wsX2_leaves wsX1_leafCount := goodIn_r _ [13, 14, 15, 16, 17, 18, 12, 19, 20, 21, 22, 23, 24, 25, 26, 27, 28, 29, 30, 31, 32, 33, 37, 38, 39, 40, 41, 42, 43] (by decide +kernel) (by decide +kernel)
set_option maxRecDepth 20000 in
theorem gX2_leaves_X1_leafCount : GoodIn wsX2_leaves (wsV RX2 133 RX1 yX1_leafCount wsX1_leafCount) := goodIn_app (goodIn_of _ (by decide +kernel)) ggX2_leaves_X1_leafCount
theorem dX2_leaves_0 : decode cX2_leaves 0 = .ok (.aload_n 0, 1) := by decide +kernel
theorem dX2_leaves_1 : decode cX2_leaves 1 = .ok (.iload_n 1, 1) := by decide +kernel
theorem dX2_leaves_2 : decode cX2_leaves 2 = .ok (.invokevirtual 20, 3) := by decide +kernel
theorem dX2_leaves_5 : decode cX2_leaves 5 = .ok (.invokevirtual 133, 3) := by decide +kernel
theorem dX2_leaves_8 : decode cX2_leaves 8 = .ok (.ireturn, 1) := by decide +kernel
set_option maxRecDepth 20000 in
theorem ggX2_has_X2_treeOf : GoodIn wsX2_has wsX2_treeOf := goodIn_ca (goodIn_r _ [5, 6, 7, 8, 28, 29, 30] (by decide +kernel) (by decide +kernel)) (goodIn_sub (fun _ h => List.mem_cons_of_mem _ (List.mem_append_right _ h)) (by decide +kernel))
set_option maxRecDepth 20000 in
theorem gX2_has_X2_treeOf : GoodIn wsX2_has (wsV RX2 20 RX2 yX2_treeOf wsX2_treeOf) := goodIn_app (goodIn_of _ (by decide +kernel)) ggX2_has_X2_treeOf
set_option maxRecDepth 20000 in
theorem ggX2_has_X1_find : GoodIn wsX2_has wsX1_find := goodIn_r _ [13, 14, 15, 16, 17, 12, 18, 19, 20, 21, 22, 23, 24, 25, 26, 27, 31, 32, 33, 34, 35, 36, 37] (by decide +kernel) (by decide +kernel)
set_option maxRecDepth 20000 in
theorem gX2_has_X1_find : GoodIn wsX2_has (wsV RX2 39 RX1 yX1_find wsX1_find) := goodIn_app (goodIn_of _ (by decide +kernel)) ggX2_has_X1_find
theorem dX2_has_0 : decode cX2_has 0 = .ok (.aload_n 0, 1) := by decide +kernel
theorem dX2_has_1 : decode cX2_has 1 = .ok (.iload_n 1, 1) := by decide +kernel
theorem dX2_has_2 : decode cX2_has 2 = .ok (.invokevirtual 20, 3) := by decide +kernel
theorem dX2_has_5 : decode cX2_has 5 = .ok (.iload_n 2, 1) := by decide +kernel
theorem dX2_has_6 : decode cX2_has 6 = .ok (.invokevirtual 39, 3) := by decide +kernel
theorem dX2_has_9 : decode cX2_has 9 = .ok (.ifnull 7, 3) := by decide +kernel
theorem dX2_has_12 : decode cX2_has 12 = .ok (.iconst 1, 1) := by decide +kernel
theorem dX2_has_13 : decode cX2_has 13 = .ok (.goto 4, 3) := by decide +kernel
theorem dX2_has_16 : decode cX2_has 16 = .ok (.iconst 0, 1) := by decide +kernel
theorem dX2_has_17 : decode cX2_has 17 = .ok (.ireturn, 1) := by decide +kernel
set_option maxRecDepth 20000 in
theorem ggX2_smaller_X2_treeOf : GoodIn wsX2_smaller wsX2_treeOf := goodIn_ca (goodIn_r _ [5, 6, 7, 8, 33, 34, 35] (by decide +kernel) (by decide +kernel)) (goodIn_sub (fun _ h => List.mem_cons_of_mem _ (List.mem_append_right _ h)) (by decide +kernel))
set_option maxRecDepth 20000 in
theorem gX2_smaller_X2_treeOf : GoodIn wsX2_smaller (wsV RX2 20 RX2 yX2_treeOf wsX2_treeOf) := goodIn_app (goodIn_of _ (by decide +kernel)) ggX2_smaller_X2_treeOf
set_option maxRecDepth 20000 in
theorem ggX2_smaller_X1_countBelow : GoodIn wsX2_smaller wsX1_countBelow := goodIn_r _ [13, 14, 15, 16, 17, 12, 18, 19, 20, 21, 22, 23, 24, 25, 26, 27, 28, 29, 30, 31, 32, 36, 37, 38, 39, 40, 41, 42] (by decide +kernel) (by decide +kernel)
set_option maxRecDepth 20000 in
theorem gX2_smaller_X1_countBelow : GoodIn wsX2_smaller (wsV RX2 136 RX1 yX1_countBelow wsX1_countBelow) := goodIn_app (goodIn_of _ (by decide +kernel)) ggX2_smaller_X1_countBelow
theorem dX2_smaller_0 : decode cX2_smaller 0 = .ok (.aload_n 0, 1) := by decide +kernel
theorem dX2_smaller_1 : decode cX2_smaller 1 = .ok (.iload_n 1, 1) := by decide +kernel
theorem dX2_smaller_2 : decode cX2_smaller 2 = .ok (.invokevirtual 20, 3) := by decide +kernel
theorem dX2_smaller_5 : decode cX2_smaller 5 = .ok (.iload_n 2, 1) := by decide +kernel
theorem dX2_smaller_6 : decode cX2_smaller 6 = .ok (.invokevirtual 136, 3) := by decide +kernel
theorem dX2_smaller_9 : decode cX2_smaller 9 = .ok (.ireturn, 1) := by decide +kernel
set_option maxRecDepth 20000 in
theorem ggX2_depthOf_X2_treeOf : GoodIn wsX2_depthOf wsX2_treeOf := goodIn_ca (goodIn_r _ [5, 6, 7, 8, 38, 39, 40] (by decide +kernel) (by decide +kernel)) (goodIn_sub (fun _ h => List.mem_cons_of_mem _ (List.mem_append_left _ (List.mem_append_right _ h))) (by decide +kernel))
set_option maxRecDepth 20000 in
theorem gX2_depthOf_X2_treeOf : GoodIn wsX2_depthOf (wsV RX2 20 RX2 yX2_treeOf wsX2_treeOf) := goodIn_app (goodIn_of _ (by decide +kernel)) ggX2_depthOf_X2_treeOf
set_option maxRecDepth 20000 in
theorem ggX2_depthOf_X2_appleOf : GoodIn wsX2_depthOf wsX2_appleOf := goodIn_ca (goodIn_r _ [11, 12, 13, 14, 15, 16, 17, 18, 19, 20, 21, 22, 23, 24, 25, 26, 27, 28, 29, 30, 31, 32, 41, 42, 43, 44, 45, 46, 47] (by decide +kernel) (by decide +kernel)) (goodIn_sub (fun _ h => List.mem_cons_of_mem _ (List.mem_append_right _ h)) (by decide +kernel))
set_option maxRecDepth 20000 in
theorem gX2_depthOf_X2_appleOf : GoodIn wsX2_depthOf (va_wsS RX2 58 yX2_appleOf wsX2_appleOf) := goodIn_app (goodIn_of _ (by decide +kernel)) ggX2_depthOf_X2_appleOf
set_option maxRecDepth 20000 in
theorem ggX2_depthOf_X0_depth : GoodIn wsX2_depthOf wsX0_depth := goodIn_r _ [36, 37, 41, 42, 43, 44, 45, 46] (by decide +kernel) (by decide +kernel)
set_option maxRecDepth 20000 in
theorem gX2_depthOf_X0_depth : GoodIn wsX2_depthOf (wsV RX2 140 RX0 yX0_depth wsX0_depth) := goodIn_app (goodIn_of _ (by decide +kernel)) ggX2_depthOf_X0_depth
theorem dX2_depthOf_0 : decode cX2_depthOf 0 = .ok (.aload_n 0, 1) := by decide +kernel
theorem dX2_depthOf_1 : decode cX2_depthOf 1 = .ok (.iload_n 1, 1) := by decide +kernel
theorem dX2_depthOf_2 : decode cX2_depthOf 2 = .ok (.invokevirtual 20, 3) := by decide +kernel
theorem dX2_depthOf_5 : decode cX2_depthOf 5 = .ok (.iload_n 2, 1) := by decide +kernel
theorem dX2_depthOf_6 : decode cX2_depthOf 6 = .ok (.invokestatic 58, 3) := by decide +kernel
theorem dX2_depthOf_9 : decode cX2_depthOf 9 = .ok (.invokevirtual 140, 3) := by decide +kernel
theorem dX2_depthOf_12 : decode cX2_depthOf 12 = .ok (.ireturn, 1) := by decide +kernel
set_option maxRecDepth 20000 in
theorem ggX2_above_X2_treeOf : GoodIn wsX2_above wsX2_treeOf := goodIn_ca (goodIn_r _ [6, 7, 8, 9, 44, 45, 46] (by decide +kernel) (by decide +kernel)) (goodIn_sub (fun _ h => List.mem_cons_of_mem _ (List.mem_append_left _ (List.mem_append_right _ h))) (by decide +kernel))
set_option maxRecDepth 20000 in
theorem gX2_above_X2_treeOf : GoodIn wsX2_above (wsV RX2 20 RX2 yX2_treeOf wsX2_treeOf) := goodIn_app (goodIn_of _ (by decide +kernel)) ggX2_above_X2_treeOf
set_option maxRecDepth 20000 in
theorem ggX2_above_X2_appleOf : GoodIn wsX2_above wsX2_appleOf := goodIn_ca (goodIn_r _ [12, 13, 14, 15, 16, 17, 18, 19, 20, 21, 22, 23, 24, 25, 26, 27, 28, 29, 30, 31, 32, 33, 38, 39, 40, 41, 42, 43, 47] (by decide +kernel) (by decide +kernel)) (goodIn_sub (fun _ h => List.mem_cons_of_mem _ (List.mem_append_right _ h)) (by decide +kernel))
set_option maxRecDepth 20000 in
theorem gX2_above_X2_appleOf : GoodIn wsX2_above (va_wsS RX2 58 yX2_appleOf wsX2_appleOf) := goodIn_app (goodIn_of _ (by decide +kernel)) ggX2_above_X2_appleOf
set_option maxRecDepth 20000 in
theorem ggX2_above_X2_sizeOrNone : GoodIn wsX2_above wsX2_sizeOrNone := goodIn_r _ [36, 37, 38, 39, 40, 41, 42, 43] (by decide +kernel) (by decide +kernel)
set_option maxRecDepth 20000 in
theorem gX2_above_X2_sizeOrNone : GoodIn wsX2_above (va_wsS RX2 105 yX2_sizeOrNone wsX2_sizeOrNone) := goodIn_app (goodIn_of _ (by decide +kernel)) ggX2_above_X2_sizeOrNone
theorem dX2_above_0 : decode cX2_above 0 = .ok (.aload_n 0, 1) := by decide +kernel
theorem dX2_above_1 : decode cX2_above 1 = .ok (.iload_n 1, 1) := by decide +kernel
theorem dX2_above_2 : decode cX2_above 2 = .ok (.invokevirtual 20, 3) := by decide +kernel
theorem dX2_above_5 : decode cX2_above 5 = .ok (.iload_n 2, 1) := by decide +kernel
theorem dX2_above_6 : decode cX2_above 6 = .ok (.invokestatic 58, 3) := by decide +kernel
theorem dX2_above_9 : decode cX2_above 9 = .ok (.getfield 143, 3) := by decide +kernel
theorem dX2_above_12 : decode cX2_above 12 = .ok (.invokestatic 105, 3) := by decide +kernel
theorem dX2_above_15 : decode cX2_above 15 = .ok (.ireturn, 1) := by decide +kernel
set_option maxRecDepth 20000 in
theorem ggX2_leftOf_X2_treeOf : GoodIn wsX2_leftOf wsX2_treeOf := goodIn_ca (goodIn_r _ [6, 7, 8, 9, 44, 45, 46] (by decide +kernel) (by decide +kernel)) (goodIn_sub (fun _ h => List.mem_cons_of_mem _ (List.mem_append_left _ (List.mem_append_right _ h))) (by decide +kernel))
set_option maxRecDepth 20000 in
theorem gX2_leftOf_X2_treeOf : GoodIn wsX2_leftOf (wsV RX2 20 RX2 yX2_treeOf wsX2_treeOf) := goodIn_app (goodIn_of _ (by decide +kernel)) ggX2_leftOf_X2_treeOf
set_option maxRecDepth 20000 in
theorem ggX2_leftOf_X2_appleOf : GoodIn wsX2_leftOf wsX2_appleOf := goodIn_ca (goodIn_r _ [12, 13, 14, 15, 16, 17, 18, 19, 20, 21, 22, 23, 24, 25, 26, 27, 28, 29, 30, 31, 32, 33, 38, 39, 40, 41, 42, 43, 47] (by decide +kernel) (by decide +kernel)) (goodIn_sub (fun _ h => List.mem_cons_of_mem _ (List.mem_append_right _ h)) (by decide +kernel))
set_option maxRecDepth 20000 in
theorem gX2_leftOf_X2_appleOf : GoodIn wsX2_leftOf (va_wsS RX2 58 yX2_appleOf wsX2_appleOf) := goodIn_app (goodIn_of _ (by decide +kernel)) ggX2_leftOf_X2_appleOf
set_option maxRecDepth 20000 in
theorem ggX2_leftOf_X2_sizeOrNone : GoodIn wsX2_leftOf wsX2_sizeOrNone := goodIn_r _ [36, 37, 38, 39, 40, 41, 42, 43] (by decide +kernel) (by decide +kernel)
set_option maxRecDepth 20000 in
theorem gX2_leftOf_X2_sizeOrNone : GoodIn wsX2_leftOf (va_wsS RX2 105 yX2_sizeOrNone wsX2_sizeOrNone) := goodIn_app (goodIn_of _ (by decide +kernel)) ggX2_leftOf_X2_sizeOrNone
theorem dX2_leftOf_0 : decode cX2_leftOf 0 = .ok (.aload_n 0, 1) := by decide +kernel
theorem dX2_leftOf_1 : decode cX2_leftOf 1 = .ok (.iload_n 1, 1) := by decide +kernel
theorem dX2_leftOf_2 : decode cX2_leftOf 2 = .ok (.invokevirtual 20, 3) := by decide +kernel
theorem dX2_leftOf_5 : decode cX2_leftOf 5 = .ok (.iload_n 2, 1) := by decide +kernel
theorem dX2_leftOf_6 : decode cX2_leftOf 6 = .ok (.invokestatic 58, 3) := by decide +kernel
theorem dX2_leftOf_9 : decode cX2_leftOf 9 = .ok (.getfield 66, 3) := by decide +kernel
theorem dX2_leftOf_12 : decode cX2_leftOf 12 = .ok (.invokestatic 105, 3) := by decide +kernel
theorem dX2_leftOf_15 : decode cX2_leftOf 15 = .ok (.ireturn, 1) := by decide +kernel
set_option maxRecDepth 20000 in
theorem ggX2_rightOf_X2_treeOf : GoodIn wsX2_rightOf wsX2_treeOf := goodIn_ca (goodIn_r _ [6, 7, 8, 9, 44, 45, 46] (by decide +kernel) (by decide +kernel)) (goodIn_sub (fun _ h => List.mem_cons_of_mem _ (List.mem_append_left _ (List.mem_append_right _ h))) (by decide +kernel))
set_option maxRecDepth 20000 in
theorem gX2_rightOf_X2_treeOf : GoodIn wsX2_rightOf (wsV RX2 20 RX2 yX2_treeOf wsX2_treeOf) := goodIn_app (goodIn_of _ (by decide +kernel)) ggX2_rightOf_X2_treeOf
set_option maxRecDepth 20000 in
theorem ggX2_rightOf_X2_appleOf : GoodIn wsX2_rightOf wsX2_appleOf := goodIn_ca (goodIn_r _ [12, 13, 14, 15, 16, 17, 18, 19, 20, 21, 22, 23, 24, 25, 26, 27, 28, 29, 30, 31, 32, 33, 38, 39, 40, 41, 42, 43, 47] (by decide +kernel) (by decide +kernel)) (goodIn_sub (fun _ h => List.mem_cons_of_mem _ (List.mem_append_right _ h)) (by decide +kernel))
set_option maxRecDepth 20000 in
theorem gX2_rightOf_X2_appleOf : GoodIn wsX2_rightOf (va_wsS RX2 58 yX2_appleOf wsX2_appleOf) := goodIn_app (goodIn_of _ (by decide +kernel)) ggX2_rightOf_X2_appleOf
set_option maxRecDepth 20000 in
theorem ggX2_rightOf_X2_sizeOrNone : GoodIn wsX2_rightOf wsX2_sizeOrNone := goodIn_r _ [36, 37, 38, 39, 40, 41, 42, 43] (by decide +kernel) (by decide +kernel)
set_option maxRecDepth 20000 in
theorem gX2_rightOf_X2_sizeOrNone : GoodIn wsX2_rightOf (va_wsS RX2 105 yX2_sizeOrNone wsX2_sizeOrNone) := goodIn_app (goodIn_of _ (by decide +kernel)) ggX2_rightOf_X2_sizeOrNone
theorem dX2_rightOf_0 : decode cX2_rightOf 0 = .ok (.aload_n 0, 1) := by decide +kernel
theorem dX2_rightOf_1 : decode cX2_rightOf 1 = .ok (.iload_n 1, 1) := by decide +kernel
theorem dX2_rightOf_2 : decode cX2_rightOf 2 = .ok (.invokevirtual 20, 3) := by decide +kernel
theorem dX2_rightOf_5 : decode cX2_rightOf 5 = .ok (.iload_n 2, 1) := by decide +kernel
theorem dX2_rightOf_6 : decode cX2_rightOf 6 = .ok (.invokestatic 58, 3) := by decide +kernel
theorem dX2_rightOf_9 : decode cX2_rightOf 9 = .ok (.getfield 73, 3) := by decide +kernel
theorem dX2_rightOf_12 : decode cX2_rightOf 12 = .ok (.invokestatic 105, 3) := by decide +kernel
theorem dX2_rightOf_15 : decode cX2_rightOf 15 = .ok (.ireturn, 1) := by decide +kernel
set_option maxRecDepth 20000 in
theorem ggX2_below_X2_treeOf : GoodIn wsX2_below wsX2_treeOf := goodIn_ca (goodIn_r _ [5, 6, 7, 8, 50, 51, 52] (by decide +kernel) (by decide +kernel)) (goodIn_sub (fun _ h => List.mem_cons_of_mem _ (List.mem_append_left _ (List.mem_append_right _ h))) (by decide +kernel))
set_option maxRecDepth 20000 in
theorem gX2_below_X2_treeOf : GoodIn wsX2_below (wsV RX2 20 RX2 yX2_treeOf wsX2_treeOf) := goodIn_app (goodIn_of _ (by decide +kernel)) ggX2_below_X2_treeOf
set_option maxRecDepth 20000 in
theorem ggX2_below_X2_appleOf : GoodIn wsX2_below wsX2_appleOf := goodIn_ca (goodIn_r _ [11, 12, 13, 14, 15, 16, 17, 18, 19, 20, 21, 22, 23, 24, 25, 26, 27, 28, 29, 30, 31, 32, 53, 54, 55, 56, 57, 58, 59] (by decide +kernel) (by decide +kernel)) (goodIn_sub (fun _ h => List.mem_cons_of_mem _ (List.mem_append_right _ h)) (by decide +kernel))
set_option maxRecDepth 20000 in
theorem gX2_below_X2_appleOf : GoodIn wsX2_below (va_wsS RX2 58 yX2_appleOf wsX2_appleOf) := goodIn_app (goodIn_of _ (by decide +kernel)) ggX2_below_X2_appleOf
set_option maxRecDepth 20000 in
theorem ggX2_below_X0_countUnder : GoodIn wsX2_below wsX0_countUnder := goodIn_r _ [36, 37, 38, 39, 28, 40, 32, 41, 42, 43, 44, 31, 45, 46, 47, 48, 49, 53, 54, 55, 56, 57, 58] (by decide +kernel) (by decide +kernel)
set_option maxRecDepth 20000 in
theorem gX2_below_X0_countUnder : GoodIn wsX2_below (wsV RX2 146 RX0 yX0_countUnder wsX0_countUnder) := goodIn_app (goodIn_of _ (by decide +kernel)) ggX2_below_X0_countUnder
theorem dX2_below_0 : decode cX2_below 0 = .ok (.aload_n 0, 1) := by decide +kernel
theorem dX2_below_1 : decode cX2_below 1 = .ok (.iload_n 1, 1) := by decide +kernel
theorem dX2_below_2 : decode cX2_below 2 = .ok (.invokevirtual 20, 3) := by decide +kernel
theorem dX2_below_5 : decode cX2_below 5 = .ok (.iload_n 2, 1) := by decide +kernel
theorem dX2_below_6 : decode cX2_below 6 = .ok (.invokestatic 58, 3) := by decide +kernel
theorem dX2_below_9 : decode cX2_below 9 = .ok (.invokevirtual 146, 3) := by decide +kernel
theorem dX2_below_12 : decode cX2_below 12 = .ok (.ireturn, 1) := by decide +kernel
set_option maxRecDepth 20000 in
theorem ggX2_eaten_X2_treeOf : GoodIn wsX2_eaten wsX2_treeOf := goodIn_ca (goodIn_r _ [6, 7, 8, 9, 40, 41, 42] (by decide +kernel) (by decide +kernel)) (goodIn_sub (fun _ h => List.mem_cons_of_mem _ (List.mem_append_left _ (List.mem_append_right _ h))) (by decide +kernel))
set_option maxRecDepth 20000 in
theorem gX2_eaten_X2_treeOf : GoodIn wsX2_eaten (wsV RX2 20 RX2 yX2_treeOf wsX2_treeOf) := goodIn_app (goodIn_of _ (by decide +kernel)) ggX2_eaten_X2_treeOf
set_option maxRecDepth 20000 in
theorem ggX2_eaten_X2_appleOf : GoodIn wsX2_eaten wsX2_appleOf := goodIn_ca (goodIn_r _ [12, 13, 14, 15, 16, 17, 18, 19, 20, 21, 22, 23, 24, 25, 26, 27, 28, 29, 30, 31, 32, 33, 34, 35, 36, 37, 38, 39, 43] (by decide +kernel) (by decide +kernel)) (goodIn_sub (fun _ h => List.mem_cons_of_mem _ (List.mem_append_right _ h)) (by decide +kernel))
set_option maxRecDepth 20000 in
theorem gX2_eaten_X2_appleOf : GoodIn wsX2_eaten (va_wsS RX2 58 yX2_appleOf wsX2_appleOf) := goodIn_app (goodIn_of _ (by decide +kernel)) ggX2_eaten_X2_appleOf
theorem dX2_eaten_0 : decode cX2_eaten 0 = .ok (.aload_n 0, 1) := by decide +kernel
theorem dX2_eaten_1 : decode cX2_eaten 1 = .ok (.iload_n 1, 1) := by decide +kernel
theorem dX2_eaten_2 : decode cX2_eaten 2 = .ok (.invokevirtual 20, 3) := by decide +kernel
theorem dX2_eaten_5 : decode cX2_eaten 5 = .ok (.iload_n 2, 1) := by decide +kernel
theorem dX2_eaten_6 : decode cX2_eaten 6 = .ok (.invokestatic 58, 3) := by decide +kernel
theorem dX2_eaten_9 : decode cX2_eaten 9 = .ok (.getfield 62, 3) := by decide +kernel
theorem dX2_eaten_12 : decode cX2_eaten 12 = .ok (.ireturn, 1) := by decide +kernel
set_option maxRecDepth 20000 in
theorem ggX2_favourite_X2_treeOf : GoodIn wsX2_favourite wsX2_treeOf := goodIn_ca (goodIn_r _ [5, 6, 7, 8, 37, 38, 39] (by decide +kernel) (by decide +kernel)) (goodIn_sub (fun _ h => List.mem_cons_of_mem _ (List.mem_append_right _ h)) (by decide +kernel))
set_option maxRecDepth 20000 in
theorem gX2_favourite_X2_treeOf : GoodIn wsX2_favourite (wsV RX2 20 RX2 yX2_treeOf wsX2_treeOf) := goodIn_app (goodIn_of _ (by decide +kernel)) ggX2_favourite_X2_treeOf
set_option maxRecDepth 20000 in
theorem ggX2_favourite_X1_mostBitten : GoodIn wsX2_favourite wsX1_mostBitten := goodIn_r _ [13, 14, 15, 16, 17, 12, 18, 19, 20, 21, 22, 23, 24, 25, 26, 27, 28, 29, 30, 31, 32, 40, 41, 42, 43, 44, 45, 46] (by decide +kernel) (by decide +kernel)
set_option maxRecDepth 20000 in
theorem gX2_favourite_X1_mostBitten : GoodIn wsX2_favourite (wsV RX2 149 RX1 yX1_mostBitten wsX1_mostBitten) := goodIn_app (goodIn_of _ (by decide +kernel)) ggX2_favourite_X1_mostBitten
set_option maxRecDepth 20000 in
theorem ggX2_favourite_X2_sizeOrNone : GoodIn wsX2_favourite wsX2_sizeOrNone := goodIn_r _ [35, 36, 40, 41, 42, 43, 44, 45] (by decide +kernel) (by decide +kernel)
set_option maxRecDepth 20000 in
theorem gX2_favourite_X2_sizeOrNone : GoodIn wsX2_favourite (va_wsS RX2 105 yX2_sizeOrNone wsX2_sizeOrNone) := goodIn_app (goodIn_of _ (by decide +kernel)) ggX2_favourite_X2_sizeOrNone
theorem dX2_favourite_0 : decode cX2_favourite 0 = .ok (.aload_n 0, 1) := by decide +kernel
theorem dX2_favourite_1 : decode cX2_favourite 1 = .ok (.iload_n 1, 1) := by decide +kernel
theorem dX2_favourite_2 : decode cX2_favourite 2 = .ok (.invokevirtual 20, 3) := by decide +kernel
theorem dX2_favourite_5 : decode cX2_favourite 5 = .ok (.invokevirtual 149, 3) := by decide +kernel
theorem dX2_favourite_8 : decode cX2_favourite 8 = .ok (.invokestatic 105, 3) := by decide +kernel
theorem dX2_favourite_11 : decode cX2_favourite 11 = .ok (.ireturn, 1) := by decide +kernel
set_option maxRecDepth 20000 in
theorem ggX2_meet_X2_treeOf : GoodIn wsX2_meet wsX2_treeOf := goodIn_ca (goodIn_r _ [5, 6, 7, 8, 48, 49, 50] (by decide +kernel) (by decide +kernel)) (goodIn_sub (fun _ h => List.mem_cons_of_mem _ (List.mem_append_left _ (List.mem_append_right _ h))) (by decide +kernel))
set_option maxRecDepth 20000 in
theorem gX2_meet_X2_treeOf : GoodIn wsX2_meet (wsV RX2 20 RX2 yX2_treeOf wsX2_treeOf) := goodIn_app (goodIn_of _ (by decide +kernel)) ggX2_meet_X2_treeOf
set_option maxRecDepth 20000 in
theorem ggX2_meet_X2_appleOf : GoodIn wsX2_meet wsX2_appleOf := goodIn_ca (goodIn_r _ [11, 12, 13, 14, 15, 16, 17, 18, 19, 20, 21, 22, 23, 24, 25, 26, 27, 28, 29, 30, 31, 32, 51, 52, 53, 54, 55, 56, 57] (by decide +kernel) (by decide +kernel)) (goodIn_sub (fun _ h => List.mem_cons_of_mem _ (List.mem_append_right _ h)) (by decide +kernel))
set_option maxRecDepth 20000 in
theorem gX2_meet_X2_appleOf : GoodIn wsX2_meet (va_wsS RX2 58 yX2_appleOf wsX2_appleOf) := goodIn_app (goodIn_of _ (by decide +kernel)) ggX2_meet_X2_appleOf
set_option maxRecDepth 20000 in
theorem ggX2_meet_X1_meeting : GoodIn wsX2_meet wsX1_meeting := goodIn_r _ [36, 19, 37, 38, 39, 40, 41, 42, 43, 24, 25, 26, 27, 28, 29, 30, 31, 32, 51, 52, 53, 54, 55, 56, 57] (by decide +kernel) (by decide +kernel)
set_option maxRecDepth 20000 in
theorem gX2_meet_X1_meeting : GoodIn wsX2_meet (wsV RX2 152 RX1 yX1_meeting wsX1_meeting) := goodIn_app (goodIn_of _ (by decide +kernel)) ggX2_meet_X1_meeting
set_option maxRecDepth 20000 in
theorem ggX2_meet_X2_sizeOrNone : GoodIn wsX2_meet wsX2_sizeOrNone := goodIn_r _ [46, 47, 51, 52, 53, 54, 55, 56] (by decide +kernel) (by decide +kernel)
set_option maxRecDepth 20000 in
theorem gX2_meet_X2_sizeOrNone : GoodIn wsX2_meet (va_wsS RX2 105 yX2_sizeOrNone wsX2_sizeOrNone) := goodIn_app (goodIn_of _ (by decide +kernel)) ggX2_meet_X2_sizeOrNone
theorem dX2_meet_0 : decode cX2_meet 0 = .ok (.aload_n 0, 1) := by decide +kernel
theorem dX2_meet_1 : decode cX2_meet 1 = .ok (.iload_n 1, 1) := by decide +kernel
theorem dX2_meet_2 : decode cX2_meet 2 = .ok (.invokevirtual 20, 3) := by decide +kernel
theorem dX2_meet_5 : decode cX2_meet 5 = .ok (.astore 4, 2) := by decide +kernel
theorem dX2_meet_7 : decode cX2_meet 7 = .ok (.aload 4, 2) := by decide +kernel
theorem dX2_meet_9 : decode cX2_meet 9 = .ok (.iload_n 2, 1) := by decide +kernel
theorem dX2_meet_10 : decode cX2_meet 10 = .ok (.invokestatic 58, 3) := by decide +kernel
theorem dX2_meet_13 : decode cX2_meet 13 = .ok (.astore 5, 2) := by decide +kernel
theorem dX2_meet_15 : decode cX2_meet 15 = .ok (.aload 4, 2) := by decide +kernel
theorem dX2_meet_17 : decode cX2_meet 17 = .ok (.iload_n 3, 1) := by decide +kernel
theorem dX2_meet_18 : decode cX2_meet 18 = .ok (.invokestatic 58, 3) := by decide +kernel
theorem dX2_meet_21 : decode cX2_meet 21 = .ok (.astore 6, 2) := by decide +kernel
theorem dX2_meet_23 : decode cX2_meet 23 = .ok (.aload 4, 2) := by decide +kernel
theorem dX2_meet_25 : decode cX2_meet 25 = .ok (.aload 5, 2) := by decide +kernel
theorem dX2_meet_27 : decode cX2_meet 27 = .ok (.aload 6, 2) := by decide +kernel
theorem dX2_meet_29 : decode cX2_meet 29 = .ok (.invokevirtual 152, 3) := by decide +kernel
theorem dX2_meet_32 : decode cX2_meet 32 = .ok (.invokestatic 105, 3) := by decide +kernel
theorem dX2_meet_35 : decode cX2_meet 35 = .ok (.ireturn, 1) := by decide +kernel
set_option maxRecDepth 20000 in
theorem ggX2_depthBehind_X2_treeOf : GoodIn wsX2_depthBehind wsX2_treeOf := goodIn_ca (goodIn_r _ [6, 7, 8, 9, 93, 94, 95] (by decide +kernel) (by decide +kernel)) (goodIn_sub (fun _ h => List.mem_cons_of_mem _ (List.mem_append_left _ (List.mem_append_right _ h))) (by decide +kernel))
set_option maxRecDepth 20000 in
theorem gX2_depthBehind_X2_treeOf : GoodIn wsX2_depthBehind (wsV RX2 20 RX2 yX2_treeOf wsX2_treeOf) := goodIn_app (goodIn_of _ (by decide +kernel)) ggX2_depthBehind_X2_treeOf
set_option maxRecDepth 20000 in
theorem ggX2_depthBehind_X2_appleOf : GoodIn wsX2_depthBehind wsX2_appleOf := goodIn_ca (goodIn_r _ [12, 13, 14, 15, 16, 17, 18, 19, 20, 21, 22, 23, 24, 25, 26, 27, 28, 29, 30, 31, 32, 33, 96, 97, 98, 99, 100, 101, 102] (by decide +kernel) (by decide +kernel)) (goodIn_sub (fun _ h => List.mem_cons_of_mem _ (List.mem_append_right _ h)) (by decide +kernel))
set_option maxRecDepth 20000 in
theorem gX2_depthBehind_X2_appleOf : GoodIn wsX2_depthBehind (va_wsS RX2 58 yX2_appleOf wsX2_appleOf) := goodIn_app (goodIn_of _ (by decide +kernel)) ggX2_depthBehind_X2_appleOf
set_option maxRecDepth 20000 in
theorem ggX2_depthBehind_X2_tryEating : GoodIn wsX2_depthBehind wsX2_tryEating := goodIn_r _ [37, 1, 38, 39, 40, 41, 18, 42, 25, 43, 44, 45, 46, 47, 48, 49, 29, 50, 32, 51, 52, 53, 54, 55, 56, 33, 57, 58, 59, 60, 61, 62, 63, 64, 65, 66, 67, 68, 69, 70, 71, 72, 73, 74, 75, 76, 77, 78, 79, 80, 81, 82, 83, 84, 85, 86, 87, 88, 89, 90, 91, 93, 94, 95, 96, 97, 98, 99, 100, 101, 102] (by decide +kernel) (by decide +kernel)
set_option maxRecDepth 20000 in
theorem gX2_depthBehind_X2_tryEating : GoodIn wsX2_depthBehind (wsV RX2 156 RX2 yX2_tryEating wsX2_tryEating) := goodIn_app (goodIn_of _ (by decide +kernel)) ggX2_depthBehind_X2_tryEating
set_option maxRecDepth 20000 in
theorem ggX2_depthBehind_X0_depth : GoodIn wsX2_depthBehind wsX0_depth := goodIn_r _ [74, 56, 96, 97, 98, 99, 100, 101] (by decide +kernel) (by decide +kernel)
set_option maxRecDepth 20000 in
theorem gX2_depthBehind_X0_depth : GoodIn wsX2_depthBehind (wsV RX2 140 RX0 yX0_depth wsX0_depth) := goodIn_app (goodIn_of _ (by decide +kernel)) ggX2_depthBehind_X0_depth
theorem dX2_depthBehind_0 : decode cX2_depthBehind 0 = .ok (.aload_n 0, 1) := by decide +kernel
theorem dX2_depthBehind_1 : decode cX2_depthBehind 1 = .ok (.iload_n 1, 1) := by decide +kernel
theorem dX2_depthBehind_2 : decode cX2_depthBehind 2 = .ok (.invokevirtual 20, 3) := by decide +kernel
theorem dX2_depthBehind_5 : decode cX2_depthBehind 5 = .ok (.astore 4, 2) := by decide +kernel
theorem dX2_depthBehind_7 : decode cX2_depthBehind 7 = .ok (.aload_n 0, 1) := by decide +kernel
theorem dX2_depthBehind_8 : decode cX2_depthBehind 8 = .ok (.aload 4, 2) := by decide +kernel
theorem dX2_depthBehind_10 : decode cX2_depthBehind 10 = .ok (.aload 4, 2) := by decide +kernel
theorem dX2_depthBehind_12 : decode cX2_depthBehind 12 = .ok (.iload_n 2, 1) := by decide +kernel
theorem dX2_depthBehind_13 : decode cX2_depthBehind 13 = .ok (.invokestatic 58, 3) := by decide +kernel
theorem dX2_depthBehind_16 : decode cX2_depthBehind 16 = .ok (.invokevirtual 156, 3) := by decide +kernel
theorem dX2_depthBehind_19 : decode cX2_depthBehind 19 = .ok (.aload_n 0, 1) := by decide +kernel
theorem dX2_depthBehind_20 : decode cX2_depthBehind 20 = .ok (.getfield 16, 3) := by decide +kernel
theorem dX2_depthBehind_23 : decode cX2_depthBehind 23 = .ok (.iload_n 3, 1) := by decide +kernel
theorem dX2_depthBehind_24 : decode cX2_depthBehind 24 = .ok (.invokestatic 58, 3) := by decide +kernel
theorem dX2_depthBehind_27 : decode cX2_depthBehind 27 = .ok (.invokevirtual 140, 3) := by decide +kernel
theorem dX2_depthBehind_30 : decode cX2_depthBehind 30 = .ok (.ireturn, 1) := by decide +kernel
set_option maxRecDepth 20000 in
theorem ggX2_heightBehind_X2_treeOf : GoodIn wsX2_heightBehind wsX2_treeOf := goodIn_ca (goodIn_r _ [6, 7, 8, 9, 100, 101, 102] (by decide +kernel) (by decide +kernel)) (goodIn_sub (fun _ h => List.mem_cons_of_mem _ (List.mem_append_left _ (List.mem_append_right _ h))) (by decide +kernel))
set_option maxRecDepth 20000 in
theorem gX2_heightBehind_X2_treeOf : GoodIn wsX2_heightBehind (wsV RX2 20 RX2 yX2_treeOf wsX2_treeOf) := goodIn_app (goodIn_of _ (by decide +kernel)) ggX2_heightBehind_X2_treeOf
set_option maxRecDepth 20000 in
theorem ggX2_heightBehind_X2_appleOf : GoodIn wsX2_heightBehind wsX2_appleOf := goodIn_ca (goodIn_r _ [12, 13, 14, 15, 16, 17, 18, 19, 20, 21, 22, 23, 24, 25, 26, 27, 28, 29, 30, 31, 32, 33, 103, 104, 105, 106, 107, 108, 109] (by decide +kernel) (by decide +kernel)) (goodIn_sub (fun _ h => List.mem_cons_of_mem _ (List.mem_append_right _ h)) (by decide +kernel))
set_option maxRecDepth 20000 in
theorem gX2_heightBehind_X2_appleOf : GoodIn wsX2_heightBehind (va_wsS RX2 58 yX2_appleOf wsX2_appleOf) := goodIn_app (goodIn_of _ (by decide +kernel)) ggX2_heightBehind_X2_appleOf
set_option maxRecDepth 20000 in
theorem ggX2_heightBehind_X2_tryEating : GoodIn wsX2_heightBehind wsX2_tryEating := goodIn_r _ [37, 1, 38, 39, 40, 41, 18, 42, 25, 43, 44, 45, 46, 47, 48, 49, 29, 50, 32, 51, 52, 53, 54, 55, 56, 33, 57, 58, 59, 60, 61, 62, 63, 64, 65, 66, 67, 68, 69, 70, 71, 72, 73, 74, 75, 76, 77, 78, 79, 80, 81, 82, 83, 84, 85, 86, 87, 88, 89, 90, 91, 100, 101, 102, 103, 104, 105, 106, 107, 108, 109] (by decide +kernel) (by decide +kernel)
set_option maxRecDepth 20000 in
theorem gX2_heightBehind_X2_tryEating : GoodIn wsX2_heightBehind (wsV RX2 156 RX2 yX2_tryEating wsX2_tryEating) := goodIn_app (goodIn_of _ (by decide +kernel)) ggX2_heightBehind_X2_tryEating
set_option maxRecDepth 20000 in
theorem ggX2_heightBehind_X1_levels : GoodIn wsX2_heightBehind wsX1_levels := goodIn_r _ [95, 96, 97, 98, 99, 43, 44, 45, 18, 46, 25, 47, 48, 49, 29, 50, 32, 71, 72, 73, 74, 56, 60, 61, 62, 63, 33, 64, 109, 103, 104, 105, 106, 107, 108] (by decide +kernel) (by decide +kernel)
set_option maxRecDepth 20000 in
theorem gX2_heightBehind_X1_levels : GoodIn wsX2_heightBehind (wsV RX2 109 RX1 yX1_levels wsX1_levels) := goodIn_app (goodIn_of _ (by decide +kernel)) ggX2_heightBehind_X1_levels
theorem dX2_heightBehind_0 : decode cX2_heightBehind 0 = .ok (.aload_n 0, 1) := by decide +kernel
theorem dX2_heightBehind_1 : decode cX2_heightBehind 1 = .ok (.iload_n 1, 1) := by decide +kernel
theorem dX2_heightBehind_2 : decode cX2_heightBehind 2 = .ok (.invokevirtual 20, 3) := by decide +kernel
theorem dX2_heightBehind_5 : decode cX2_heightBehind 5 = .ok (.astore_n 3, 1) := by decide +kernel
theorem dX2_heightBehind_6 : decode cX2_heightBehind 6 = .ok (.aload_n 0, 1) := by decide +kernel
theorem dX2_heightBehind_7 : decode cX2_heightBehind 7 = .ok (.aload_n 3, 1) := by decide +kernel
theorem dX2_heightBehind_8 : decode cX2_heightBehind 8 = .ok (.aload_n 3, 1) := by decide +kernel
theorem dX2_heightBehind_9 : decode cX2_heightBehind 9 = .ok (.iload_n 2, 1) := by decide +kernel
theorem dX2_heightBehind_10 : decode cX2_heightBehind 10 = .ok (.invokestatic 58, 3) := by decide +kernel
theorem dX2_heightBehind_13 : decode cX2_heightBehind 13 = .ok (.invokevirtual 156, 3) := by decide +kernel
theorem dX2_heightBehind_16 : decode cX2_heightBehind 16 = .ok (.aload_n 0, 1) := by decide +kernel
theorem dX2_heightBehind_17 : decode cX2_heightBehind 17 = .ok (.getfield 16, 3) := by decide +kernel
theorem dX2_heightBehind_20 : decode cX2_heightBehind 20 = .ok (.invokevirtual 109, 3) := by decide +kernel
theorem dX2_heightBehind_23 : decode cX2_heightBehind 23 = .ok (.ireturn, 1) := by decide +kernel
set_option maxRecDepth 20000 in
theorem ggX2_bestToEat_X2_treeOf : GoodIn wsX2_bestToEat wsX2_treeOf := goodIn_ca (goodIn_r _ [6, 7, 8, 9, 83, 84, 85] (by decide +kernel) (by decide +kernel)) (goodIn_sub (fun _ h => List.mem_cons_of_mem _ (List.mem_append_right _ h)) (by decide +kernel))
set_option maxRecDepth 20000 in
theorem gX2_bestToEat_X2_treeOf : GoodIn wsX2_bestToEat (wsV RX2 20 RX2 yX2_treeOf wsX2_treeOf) := goodIn_app (goodIn_of _ (by decide +kernel)) ggX2_bestToEat_X2_treeOf
set_option maxRecDepth 20000 in
theorem ggX2_bestToEat_X1_first : GoodIn wsX2_bestToEat wsX1_first := goodIn_r _ [14, 15, 16, 17, 18, 19, 20, 21, 86, 87, 88, 89, 90, 91, 92] (by decide +kernel) (by decide +kernel)
set_option maxRecDepth 20000 in
theorem gX2_bestToEat_X1_first : GoodIn wsX2_bestToEat (wsV RX2 115 RX1 yX1_first wsX1_first) := goodIn_app (goodIn_of _ (by decide +kernel)) ggX2_bestToEat_X1_first
set_option maxRecDepth 20000 in
theorem ggX2_bestToEat_X2_tryEating : GoodIn wsX2_bestToEat wsX2_tryEating := goodIn_r _ [25, 1, 26, 27, 28, 29, 13, 30, 15, 31, 11, 12, 14, 16, 17, 18, 19, 20, 21, 32, 33, 34, 35, 36, 37, 38, 39, 40, 41, 42, 43, 44, 45, 46, 47, 48, 49, 50, 51, 52, 53, 54, 55, 56, 57, 58, 59, 60, 61, 62, 63, 64, 65, 66, 67, 68, 69, 70, 71, 72, 73, 83, 84, 85, 87, 88, 89, 90, 91, 92, 86] (by decide +kernel) (by decide +kernel)
set_option maxRecDepth 20000 in
theorem gX2_bestToEat_X2_tryEating : GoodIn wsX2_bestToEat (wsV RX2 156 RX2 yX2_tryEating wsX2_tryEating) := goodIn_app (goodIn_of _ (by decide +kernel)) ggX2_bestToEat_X2_tryEating
set_option maxRecDepth 20000 in
theorem ggX2_bestToEat_X1_depthSum : GoodIn wsX2_bestToEat wsX1_depthSum := goodIn_r _ [77, 31, 11, 12, 13, 14, 15, 16, 17, 18, 19, 20, 21, 53, 54, 55, 56, 37, 42, 43, 44, 45, 38, 46, 86, 87, 88, 89, 90, 91, 92] (by decide +kernel) (by decide +kernel)
set_option maxRecDepth 20000 in
theorem gX2_bestToEat_X1_depthSum : GoodIn wsX2_bestToEat (wsV RX2 112 RX1 yX1_depthSum wsX1_depthSum) := goodIn_app (goodIn_of _ (by decide +kernel)) ggX2_bestToEat_X1_depthSum
set_option maxRecDepth 20000 in
theorem ggX2_bestToEat_X0_next : GoodIn wsX2_bestToEat wsX0_next := goodIn_r _ [45, 38, 37, 46, 17, 18, 19, 20, 21, 87, 88, 89, 90, 91, 92] (by decide +kernel) (by decide +kernel)
set_option maxRecDepth 20000 in
theorem gX2_bestToEat_X0_next : GoodIn wsX2_bestToEat (wsV RX2 159 RX0 yX0_next wsX0_next) := goodIn_app (goodIn_of _ (by decide +kernel)) ggX2_bestToEat_X0_next
set_option maxRecDepth 20000 in
theorem ggX2_bestToEat_X2_sizeOrNone : GoodIn wsX2_bestToEat wsX2_sizeOrNone := goodIn_r _ [81, 82, 87, 88, 89, 90, 91, 92] (by decide +kernel) (by decide +kernel)
set_option maxRecDepth 20000 in
theorem gX2_bestToEat_X2_sizeOrNone : GoodIn wsX2_bestToEat (va_wsS RX2 105 yX2_sizeOrNone wsX2_sizeOrNone) := goodIn_app (goodIn_of _ (by decide +kernel)) ggX2_bestToEat_X2_sizeOrNone
theorem dX2_bestToEat_0 : decode cX2_bestToEat 0 = .ok (.aload_n 0, 1) := by decide +kernel
theorem dX2_bestToEat_1 : decode cX2_bestToEat 1 = .ok (.iload_n 1, 1) := by decide +kernel
theorem dX2_bestToEat_2 : decode cX2_bestToEat 2 = .ok (.invokevirtual 20, 3) := by decide +kernel
theorem dX2_bestToEat_5 : decode cX2_bestToEat 5 = .ok (.astore_n 2, 1) := by decide +kernel
theorem dX2_bestToEat_6 : decode cX2_bestToEat 6 = .ok (.aconst_null, 1) := by decide +kernel
theorem dX2_bestToEat_7 : decode cX2_bestToEat 7 = .ok (.astore_n 3, 1) := by decide +kernel
theorem dX2_bestToEat_8 : decode cX2_bestToEat 8 = .ok (.iconst 0, 1) := by decide +kernel
theorem dX2_bestToEat_9 : decode cX2_bestToEat 9 = .ok (.istore 4, 2) := by decide +kernel
theorem dX2_bestToEat_11 : decode cX2_bestToEat 11 = .ok (.aload_n 2, 1) := by decide +kernel
theorem dX2_bestToEat_12 : decode cX2_bestToEat 12 = .ok (.invokevirtual 115, 3) := by decide +kernel
theorem dX2_bestToEat_15 : decode cX2_bestToEat 15 = .ok (.astore 5, 2) := by decide +kernel
theorem dX2_bestToEat_17 : decode cX2_bestToEat 17 = .ok (.aload 5, 2) := by decide +kernel
theorem dX2_bestToEat_19 : decode cX2_bestToEat 19 = .ok (.ifnull 47, 3) := by decide +kernel
theorem dX2_bestToEat_22 : decode cX2_bestToEat 22 = .ok (.aload_n 0, 1) := by decide +kernel
theorem dX2_bestToEat_23 : decode cX2_bestToEat 23 = .ok (.aload_n 2, 1) := by decide +kernel
theorem dX2_bestToEat_24 : decode cX2_bestToEat 24 = .ok (.aload 5, 2) := by decide +kernel
theorem dX2_bestToEat_26 : decode cX2_bestToEat 26 = .ok (.invokevirtual 156, 3) := by decide +kernel
theorem dX2_bestToEat_29 : decode cX2_bestToEat 29 = .ok (.aload_n 0, 1) := by decide +kernel
theorem dX2_bestToEat_30 : decode cX2_bestToEat 30 = .ok (.getfield 16, 3) := by decide +kernel
theorem dX2_bestToEat_33 : decode cX2_bestToEat 33 = .ok (.invokevirtual 112, 3) := by decide +kernel
theorem dX2_bestToEat_36 : decode cX2_bestToEat 36 = .ok (.istore 6, 2) := by decide +kernel
theorem dX2_bestToEat_38 : decode cX2_bestToEat 38 = .ok (.aload_n 3, 1) := by decide +kernel
theorem dX2_bestToEat_39 : decode cX2_bestToEat 39 = .ok (.ifnull 10, 3) := by decide +kernel
theorem dX2_bestToEat_42 : decode cX2_bestToEat 42 = .ok (.iload 6, 2) := by decide +kernel
theorem dX2_bestToEat_44 : decode cX2_bestToEat 44 = .ok (.iload 4, 2) := by decide +kernel
theorem dX2_bestToEat_46 : decode cX2_bestToEat 46 = .ok (.if_icmp .ge 10, 3) := by decide +kernel
theorem dX2_bestToEat_49 : decode cX2_bestToEat 49 = .ok (.aload 5, 2) := by decide +kernel
theorem dX2_bestToEat_51 : decode cX2_bestToEat 51 = .ok (.astore_n 3, 1) := by decide +kernel
theorem dX2_bestToEat_52 : decode cX2_bestToEat 52 = .ok (.iload 6, 2) := by decide +kernel
theorem dX2_bestToEat_54 : decode cX2_bestToEat 54 = .ok (.istore 4, 2) := by decide +kernel
theorem dX2_bestToEat_56 : decode cX2_bestToEat 56 = .ok (.aload 5, 2) := by decide +kernel
theorem dX2_bestToEat_58 : decode cX2_bestToEat 58 = .ok (.invokevirtual 159, 3) := by decide +kernel
theorem dX2_bestToEat_61 : decode cX2_bestToEat 61 = .ok (.astore 5, 2) := by decide +kernel
theorem dX2_bestToEat_63 : decode cX2_bestToEat 63 = .ok (.goto (-46), 3) := by decide +kernel
theorem dX2_bestToEat_66 : decode cX2_bestToEat 66 = .ok (.aload_n 3, 1) := by decide +kernel
theorem dX2_bestToEat_67 : decode cX2_bestToEat 67 = .ok (.invokestatic 105, 3) := by decide +kernel
theorem dX2_bestToEat_70 : decode cX2_bestToEat 70 = .ok (.ireturn, 1) := by decide +kernel
set_option maxRecDepth 20000 in
theorem ggX2_plantDepth_X2_treeOf : GoodIn wsX2_plantDepth wsX2_treeOf := goodIn_ca (goodIn_r _ [6, 7, 8, 9, 40, 41, 42] (by decide +kernel) (by decide +kernel)) (goodIn_sub (fun _ h => List.mem_cons_of_mem _ (List.mem_append_left _ (List.mem_append_right _ h))) (by decide +kernel))
set_option maxRecDepth 20000 in
theorem gX2_plantDepth_X2_treeOf : GoodIn wsX2_plantDepth (wsV RX2 20 RX2 yX2_treeOf wsX2_treeOf) := goodIn_app (goodIn_of _ (by decide +kernel)) ggX2_plantDepth_X2_treeOf
set_option maxRecDepth 20000 in
theorem ggX2_plantDepth_X2_checkSize : GoodIn wsX2_plantDepth wsX2_checkSize := goodIn_ca (goodIn_r _ [12, 13, 14] (by decide +kernel) (by decide +kernel)) (goodIn_sub (fun _ h => List.mem_cons_of_mem _ (List.mem_append_right _ h)) (by decide +kernel))
set_option maxRecDepth 20000 in
theorem gX2_plantDepth_X2_checkSize : GoodIn wsX2_plantDepth (va_wsS RX2 24 yX2_checkSize wsX2_checkSize) := goodIn_app (goodIn_of _ (by decide +kernel)) ggX2_plantDepth_X2_checkSize
set_option maxRecDepth 20000 in
theorem ggX2_plantDepth_X1_nearest : GoodIn wsX2_plantDepth wsX1_nearest := goodIn_r _ [19, 20, 21, 22, 23, 24, 25, 26, 27, 28, 43, 34, 35, 36, 37, 38, 39] (by decide +kernel) (by decide +kernel)
set_option maxRecDepth 20000 in
theorem gX2_plantDepth_X1_nearest : GoodIn wsX2_plantDepth (wsV RX2 162 RX1 yX1_nearest wsX1_nearest) := goodIn_app (goodIn_of _ (by decide +kernel)) ggX2_plantDepth_X1_nearest
set_option maxRecDepth 20000 in
theorem ggX2_plantDepth_X0_depth : GoodIn wsX2_plantDepth wsX0_depth := goodIn_r _ [32, 33, 34, 35, 36, 37, 38, 39] (by decide +kernel) (by decide +kernel)
set_option maxRecDepth 20000 in
theorem gX2_plantDepth_X0_depth : GoodIn wsX2_plantDepth (wsV RX2 140 RX0 yX0_depth wsX0_depth) := goodIn_app (goodIn_of _ (by decide +kernel)) ggX2_plantDepth_X0_depth
theorem dX2_plantDepth_0 : decode cX2_plantDepth 0 = .ok (.aload_n 0, 1) := by decide +kernel
theorem dX2_plantDepth_1 : decode cX2_plantDepth 1 = .ok (.iload_n 1, 1) := by decide +kernel
theorem dX2_plantDepth_2 : decode cX2_plantDepth 2 = .ok (.invokevirtual 20, 3) := by decide +kernel
theorem dX2_plantDepth_5 : decode cX2_plantDepth 5 = .ok (.astore_n 3, 1) := by decide +kernel
theorem dX2_plantDepth_6 : decode cX2_plantDepth 6 = .ok (.iload_n 2, 1) := by decide +kernel
theorem dX2_plantDepth_7 : decode cX2_plantDepth 7 = .ok (.invokestatic 24, 3) := by decide +kernel
theorem dX2_plantDepth_10 : decode cX2_plantDepth 10 = .ok (.aload_n 3, 1) := by decide +kernel
theorem dX2_plantDepth_11 : decode cX2_plantDepth 11 = .ok (.iload_n 2, 1) := by decide +kernel
theorem dX2_plantDepth_12 : decode cX2_plantDepth 12 = .ok (.invokevirtual 162, 3) := by decide +kernel
theorem dX2_plantDepth_15 : decode cX2_plantDepth 15 = .ok (.astore 4, 2) := by decide +kernel
theorem dX2_plantDepth_17 : decode cX2_plantDepth 17 = .ok (.aload 4, 2) := by decide +kernel
theorem dX2_plantDepth_19 : decode cX2_plantDepth 19 = .ok (.ifnonnull 5, 3) := by decide +kernel
theorem dX2_plantDepth_22 : decode cX2_plantDepth 22 = .ok (.iconst 0, 1) := by decide +kernel
theorem dX2_plantDepth_23 : decode cX2_plantDepth 23 = .ok (.ireturn, 1) := by decide +kernel
theorem dX2_plantDepth_24 : decode cX2_plantDepth 24 = .ok (.aload 4, 2) := by decide +kernel
theorem dX2_plantDepth_26 : decode cX2_plantDepth 26 = .ok (.getfield 130, 3) := by decide +kernel
theorem dX2_plantDepth_29 : decode cX2_plantDepth 29 = .ok (.iload_n 2, 1) := by decide +kernel
theorem dX2_plantDepth_30 : decode cX2_plantDepth 30 = .ok (.if_icmp .ne 7, 3) := by decide +kernel
theorem dX2_plantDepth_33 : decode cX2_plantDepth 33 = .ok (.iconst (-1), 1) := by decide +kernel
theorem dX2_plantDepth_34 : decode cX2_plantDepth 34 = .ok (.goto 10, 3) := by decide +kernel
theorem dX2_plantDepth_37 : decode cX2_plantDepth 37 = .ok (.aload 4, 2) := by decide +kernel
theorem dX2_plantDepth_39 : decode cX2_plantDepth 39 = .ok (.invokevirtual 140, 3) := by decide +kernel
theorem dX2_plantDepth_42 : decode cX2_plantDepth 42 = .ok (.iconst 1, 1) := by decide +kernel
theorem dX2_plantDepth_43 : decode cX2_plantDepth 43 = .ok (.iadd, 1) := by decide +kernel
theorem dX2_plantDepth_44 : decode cX2_plantDepth 44 = .ok (.ireturn, 1) := by decide +kernel
set_option maxRecDepth 20000 in
theorem ggX2_canJoin_X2_treeOf : GoodIn wsX2_canJoin wsX2_treeOf := goodIn_ca (goodIn_r _ [5, 6, 7, 8, 34, 35, 36] (by decide +kernel) (by decide +kernel)) (goodIn_sub (fun _ h => List.mem_cons_of_mem _ (List.mem_append_right _ h)) (by decide +kernel))
set_option maxRecDepth 20000 in
theorem gX2_canJoin_X2_treeOf : GoodIn wsX2_canJoin (wsV RX2 20 RX2 yX2_treeOf wsX2_treeOf) := goodIn_app (goodIn_of _ (by decide +kernel)) ggX2_canJoin_X2_treeOf
set_option maxRecDepth 20000 in
theorem ggX2_canJoin_X2_mayJoin : GoodIn wsX2_canJoin wsX2_mayJoin := goodIn_r _ [11, 12, 13, 14, 15, 16, 17, 18, 19, 20, 21, 22, 23, 24, 25, 26, 27, 28, 29, 30, 31, 32, 33, 37, 38, 39, 40, 41, 42, 43] (by decide +kernel) (by decide +kernel)
set_option maxRecDepth 20000 in
theorem gX2_canJoin_X2_mayJoin : GoodIn wsX2_canJoin (va_wsS RX2 96 yX2_mayJoin wsX2_mayJoin) := goodIn_app (goodIn_of _ (by decide +kernel)) ggX2_canJoin_X2_mayJoin
theorem dX2_canJoin_0 : decode cX2_canJoin 0 = .ok (.aload_n 0, 1) := by decide +kernel
theorem dX2_canJoin_1 : decode cX2_canJoin 1 = .ok (.iload_n 1, 1) := by decide +kernel
theorem dX2_canJoin_2 : decode cX2_canJoin 2 = .ok (.invokevirtual 20, 3) := by decide +kernel
theorem dX2_canJoin_5 : decode cX2_canJoin 5 = .ok (.aload_n 0, 1) := by decide +kernel
theorem dX2_canJoin_6 : decode cX2_canJoin 6 = .ok (.iload_n 2, 1) := by decide +kernel
theorem dX2_canJoin_7 : decode cX2_canJoin 7 = .ok (.invokevirtual 20, 3) := by decide +kernel
theorem dX2_canJoin_10 : decode cX2_canJoin 10 = .ok (.invokestatic 96, 3) := by decide +kernel
theorem dX2_canJoin_13 : decode cX2_canJoin 13 = .ok (.ireturn, 1) := by decide +kernel
set_option maxRecDepth 20000 in
theorem ggX2_meanDepth_X2_treeOf : GoodIn wsX2_meanDepth wsX2_treeOf := goodIn_ca (goodIn_r _ [5, 6, 7, 8, 49, 50, 51] (by decide +kernel) (by decide +kernel)) (goodIn_sub (fun _ h => List.mem_cons_of_mem _ (List.mem_append_right _ h)) (by decide +kernel))
set_option maxRecDepth 20000 in
theorem gX2_meanDepth_X2_treeOf : GoodIn wsX2_meanDepth (wsV RX2 20 RX2 yX2_treeOf wsX2_treeOf) := goodIn_app (goodIn_of _ (by decide +kernel)) ggX2_meanDepth_X2_treeOf
set_option maxRecDepth 20000 in
theorem ggX2_meanDepth_X1_count : GoodIn wsX2_meanDepth wsX1_count := goodIn_r _ [13, 14, 15, 16, 17, 18, 19, 20, 21, 22, 23, 24, 25, 26, 27, 28, 29, 30, 31, 32, 33, 34, 52, 53, 54, 55, 56, 57, 58] (by decide +kernel) (by decide +kernel)
set_option maxRecDepth 20000 in
theorem gX2_meanDepth_X1_count : GoodIn wsX2_meanDepth (wsV RX2 93 RX1 yX1_count wsX1_count) := goodIn_app (goodIn_of _ (by decide +kernel)) ggX2_meanDepth_X1_count
set_option maxRecDepth 20000 in
theorem ggX2_meanDepth_X1_depthSum : GoodIn wsX2_meanDepth wsX1_depthSum := goodIn_r _ [38, 39, 40, 41, 12, 42, 14, 43, 26, 27, 18, 28, 29, 44, 45, 46, 47, 34, 48, 31, 32, 33, 24, 25, 52, 53, 54, 55, 56, 57, 58] (by decide +kernel) (by decide +kernel)
set_option maxRecDepth 20000 in
theorem gX2_meanDepth_X1_depthSum : GoodIn wsX2_meanDepth (wsV RX2 112 RX1 yX1_depthSum wsX1_depthSum) := goodIn_app (goodIn_of _ (by decide +kernel)) ggX2_meanDepth_X1_depthSum
theorem dX2_meanDepth_0 : decode cX2_meanDepth 0 = .ok (.aload_n 0, 1) := by decide +kernel
theorem dX2_meanDepth_1 : decode cX2_meanDepth 1 = .ok (.iload_n 1, 1) := by decide +kernel
theorem dX2_meanDepth_2 : decode cX2_meanDepth 2 = .ok (.invokevirtual 20, 3) := by decide +kernel
theorem dX2_meanDepth_5 : decode cX2_meanDepth 5 = .ok (.astore_n 2, 1) := by decide +kernel
theorem dX2_meanDepth_6 : decode cX2_meanDepth 6 = .ok (.aload_n 2, 1) := by decide +kernel
theorem dX2_meanDepth_7 : decode cX2_meanDepth 7 = .ok (.invokevirtual 93, 3) := by decide +kernel
theorem dX2_meanDepth_10 : decode cX2_meanDepth 10 = .ok (.istore_n 3, 1) := by decide +kernel
theorem dX2_meanDepth_11 : decode cX2_meanDepth 11 = .ok (.iload_n 3, 1) := by decide +kernel
theorem dX2_meanDepth_12 : decode cX2_meanDepth 12 = .ok (.ifCond .ne 7, 3) := by decide +kernel
theorem dX2_meanDepth_15 : decode cX2_meanDepth 15 = .ok (.dconst 0, 1) := by decide +kernel
theorem dX2_meanDepth_16 : decode cX2_meanDepth 16 = .ok (.goto 11, 3) := by decide +kernel
theorem dX2_meanDepth_19 : decode cX2_meanDepth 19 = .ok (.aload_n 2, 1) := by decide +kernel
theorem dX2_meanDepth_20 : decode cX2_meanDepth 20 = .ok (.invokevirtual 112, 3) := by decide +kernel
theorem dX2_meanDepth_23 : decode cX2_meanDepth 23 = .ok (.i2d, 1) := by decide +kernel
theorem dX2_meanDepth_24 : decode cX2_meanDepth 24 = .ok (.iload_n 3, 1) := by decide +kernel
theorem dX2_meanDepth_25 : decode cX2_meanDepth 25 = .ok (.i2d, 1) := by decide +kernel
theorem dX2_meanDepth_26 : decode cX2_meanDepth 26 = .ok (.ddiv, 1) := by decide +kernel
theorem dX2_meanDepth_27 : decode cX2_meanDepth 27 = .ok (.dreturn, 1) := by decide +kernel
set_option maxRecDepth 20000 in
theorem ggX2_digest_X2_apples : GoodIn wsX2_digest wsX2_apples := goodIn_r _ [7, 2, 8, 9, 10, 11, 12, 13, 14, 15, 16, 17, 18, 19, 20, 21, 22, 23, 24, 25, 26, 27, 28, 29, 30, 31, 32, 33, 175, 176, 177, 178, 179, 180, 181, 182, 183, 184] (by decide +kernel) (by decide +kernel)
set_option maxRecDepth 20000 in
theorem gX2_digest_X2_apples : GoodIn wsX2_digest (wsV RX2 28 RX2 yX2_apples wsX2_apples) := goodIn_app (goodIn_of _ (by decide +kernel)) ggX2_digest_X2_apples
set_option maxRecDepth 20000 in
theorem ggX2_digest_X2_mix : GoodIn wsX2_digest wsX2_mix := goodIn_r _ [36, 37] (by decide +kernel) (by decide +kernel)
set_option maxRecDepth 20000 in
theorem gX2_digest_X2_mix : GoodIn wsX2_digest (va_wsS RX2 167 yX2_mix wsX2_mix) := goodIn_app (goodIn_of _ (by decide +kernel)) ggX2_digest_X2_mix
set_option maxRecDepth 20000 in
theorem ggX2_digest_X2_turnings : GoodIn wsX2_digest wsX2_turnings := goodIn_r _ [41, 42, 175, 176, 177] (by decide +kernel) (by decide +kernel)
set_option maxRecDepth 20000 in
theorem gX2_digest_X2_turnings : GoodIn wsX2_digest (wsV RX2 171 RX2 yX2_turnings wsX2_turnings) := goodIn_app (goodIn_of _ (by decide +kernel)) ggX2_digest_X2_turnings
set_option maxRecDepth 20000 in
theorem ggX2_digest_X2_mixRow : GoodIn wsX2_digest wsX2_mixRow := goodIn_ca (goodIn_r _ [46, 47, 48, 49, 6, 50, 51, 52, 53, 54, 55, 56, 2, 8, 9, 10, 11, 12, 13, 14, 15, 16, 17, 18, 19, 20, 21, 22, 23, 24, 25, 26, 27, 28, 29, 30, 31, 32, 33, 34, 35, 36, 37, 57, 58, 59, 60, 61, 62, 63, 64, 65, 66, 67, 68, 69, 70, 71, 72, 73, 74, 75, 76, 77, 78, 79, 80, 81, 82, 83, 84, 85, 86, 87, 88, 89, 90, 91, 92, 93, 94, 95, 96, 97, 98, 99, 100, 101, 102, 103, 104, 105, 106, 107, 108, 109, 110, 111, 112, 113, 114, 115, 116, 117, 118, 119, 120, 121, 122, 123, 124, 125, 126, 127, 128, 129, 130, 131, 132, 133, 134, 135, 136, 137, 138, 139, 140, 141, 142, 143, 144, 145, 146, 147, 148, 149, 150, 151, 152, 153, 154, 155, 156, 157, 158, 159, 160, 161, 162, 163, 164, 165, 175, 176, 177, 178, 179, 180, 181, 182, 183, 184] (by decide +kernel) (by decide +kernel)) (goodIn_sub (fun _ h => List.mem_cons_of_mem _ (List.mem_append_right _ h)) (by decide +kernel))
set_option maxRecDepth 20000 in
theorem gX2_digest_X2_mixRow : GoodIn wsX2_digest (wsV RX2 174 RX2 yX2_mixRow wsX2_mixRow) := goodIn_app (goodIn_of _ (by decide +kernel)) ggX2_digest_X2_mixRow
set_option maxRecDepth 20000 in
theorem ggX2_digest_X1_first : GoodIn wsX2_digest wsX1_first := goodIn_r _ [81, 13, 82, 25, 26, 17, 27, 28, 178, 179, 180, 181, 182, 183, 184] (by decide +kernel) (by decide +kernel)
set_option maxRecDepth 20000 in
theorem gX2_digest_X1_first : GoodIn wsX2_digest (wsV RX2 115 RX1 yX1_first wsX1_first) := goodIn_app (goodIn_of _ (by decide +kernel)) ggX2_digest_X1_first
set_option maxRecDepth 20000 in
theorem ggX2_digest_X2_mixApple : GoodIn wsX2_digest wsX2_mixApple := goodIn_r _ [168, 65, 169, 170, 171, 172, 34, 35, 6, 36, 37, 173, 84, 85, 17, 86, 33, 62, 63, 64, 174, 15, 16, 18, 19, 20, 21, 22, 23, 24, 25, 26, 27, 28, 29, 30, 31, 32, 179, 180, 181, 182, 183, 184] (by decide +kernel) (by decide +kernel)
set_option maxRecDepth 20000 in
theorem gX2_digest_X2_mixApple : GoodIn wsX2_digest (va_wsS RX2 177 yX2_mixApple wsX2_mixApple) := goodIn_app (goodIn_of _ (by decide +kernel)) ggX2_digest_X2_mixApple
set_option maxRecDepth 20000 in
theorem ggX2_digest_X0_next : GoodIn wsX2_digest wsX0_next := goodIn_r _ [32, 23, 33, 24, 25, 26, 17, 27, 28, 179, 180, 181, 182, 183, 184] (by decide +kernel) (by decide +kernel)
set_option maxRecDepth 20000 in
theorem gX2_digest_X0_next : GoodIn wsX2_digest (wsV RX2 159 RX0 yX0_next wsX0_next) := goodIn_app (goodIn_of _ (by decide +kernel)) ggX2_digest_X0_next
theorem dX2_digest_0 : decode cX2_digest 0 = .ok (.ldc2_w 165, 3) := by decide +kernel
theorem dX2_digest_3 : decode cX2_digest 3 = .ok (.lstore_n 1, 1) := by decide +kernel
theorem dX2_digest_4 : decode cX2_digest 4 = .ok (.lload_n 1, 1) := by decide +kernel
theorem dX2_digest_5 : decode cX2_digest 5 = .ok (.aload_n 0, 1) := by decide +kernel
theorem dX2_digest_6 : decode cX2_digest 6 = .ok (.invokevirtual 28, 3) := by decide +kernel
theorem dX2_digest_9 : decode cX2_digest 9 = .ok (.invokestatic 167, 3) := by decide +kernel
theorem dX2_digest_12 : decode cX2_digest 12 = .ok (.lstore_n 1, 1) := by decide +kernel
theorem dX2_digest_13 : decode cX2_digest 13 = .ok (.lload_n 1, 1) := by decide +kernel
theorem dX2_digest_14 : decode cX2_digest 14 = .ok (.aload_n 0, 1) := by decide +kernel
theorem dX2_digest_15 : decode cX2_digest 15 = .ok (.invokevirtual 171, 3) := by decide +kernel
theorem dX2_digest_18 : decode cX2_digest 18 = .ok (.invokestatic 167, 3) := by decide +kernel
theorem dX2_digest_21 : decode cX2_digest 21 = .ok (.lstore_n 1, 1) := by decide +kernel
theorem dX2_digest_22 : decode cX2_digest 22 = .ok (.iconst 0, 1) := by decide +kernel
theorem dX2_digest_23 : decode cX2_digest 23 = .ok (.istore_n 3, 1) := by decide +kernel
theorem dX2_digest_24 : decode cX2_digest 24 = .ok (.iload_n 3, 1) := by decide +kernel
theorem dX2_digest_25 : decode cX2_digest 25 = .ok (.aload_n 0, 1) := by decide +kernel
theorem dX2_digest_26 : decode cX2_digest 26 = .ok (.getfield 11, 3) := by decide +kernel
theorem dX2_digest_29 : decode cX2_digest 29 = .ok (.arraylength, 1) := by decide +kernel
theorem dX2_digest_30 : decode cX2_digest 30 = .ok (.if_icmp .ge 49, 3) := by decide +kernel
theorem dX2_digest_33 : decode cX2_digest 33 = .ok (.aload_n 0, 1) := by decide +kernel
theorem dX2_digest_34 : decode cX2_digest 34 = .ok (.lload_n 1, 1) := by decide +kernel
theorem dX2_digest_35 : decode cX2_digest 35 = .ok (.iload_n 3, 1) := by decide +kernel
theorem dX2_digest_36 : decode cX2_digest 36 = .ok (.invokevirtual 174, 3) := by decide +kernel
theorem dX2_digest_39 : decode cX2_digest 39 = .ok (.lstore_n 1, 1) := by decide +kernel
theorem dX2_digest_40 : decode cX2_digest 40 = .ok (.aload_n 0, 1) := by decide +kernel
theorem dX2_digest_41 : decode cX2_digest 41 = .ok (.getfield 11, 3) := by decide +kernel
theorem dX2_digest_44 : decode cX2_digest 44 = .ok (.iload_n 3, 1) := by decide +kernel
theorem dX2_digest_45 : decode cX2_digest 45 = .ok (.aaload, 1) := by decide +kernel
theorem dX2_digest_46 : decode cX2_digest 46 = .ok (.invokevirtual 115, 3) := by decide +kernel
theorem dX2_digest_49 : decode cX2_digest 49 = .ok (.astore 4, 2) := by decide +kernel
theorem dX2_digest_51 : decode cX2_digest 51 = .ok (.aload 4, 2) := by decide +kernel
theorem dX2_digest_53 : decode cX2_digest 53 = .ok (.ifnull 20, 3) := by decide +kernel
theorem dX2_digest_56 : decode cX2_digest 56 = .ok (.lload_n 1, 1) := by decide +kernel
theorem dX2_digest_57 : decode cX2_digest 57 = .ok (.aload 4, 2) := by decide +kernel
theorem dX2_digest_59 : decode cX2_digest 59 = .ok (.invokestatic 177, 3) := by decide +kernel
theorem dX2_digest_62 : decode cX2_digest 62 = .ok (.lstore_n 1, 1) := by decide +kernel
theorem dX2_digest_63 : decode cX2_digest 63 = .ok (.aload 4, 2) := by decide +kernel
theorem dX2_digest_65 : decode cX2_digest 65 = .ok (.invokevirtual 159, 3) := by decide +kernel
theorem dX2_digest_68 : decode cX2_digest 68 = .ok (.astore 4, 2) := by decide +kernel
theorem dX2_digest_70 : decode cX2_digest 70 = .ok (.goto (-19), 3) := by decide +kernel
theorem dX2_digest_73 : decode cX2_digest 73 = .ok (.iinc 3 1, 3) := by decide +kernel
theorem dX2_digest_76 : decode cX2_digest 76 = .ok (.goto (-52), 3) := by decide +kernel
theorem dX2_digest_79 : decode cX2_digest 79 = .ok (.lload_n 1, 1) := by decide +kernel
theorem dX2_digest_80 : decode cX2_digest 80 = .ok (.lreturn, 1) := by decide +kernel
set_option maxRecDepth 20000 in
theorem ggX2_mixRow_X2_sizeOf : GoodIn wsX2_mixRow wsX2_sizeOf := goodIn_ca (goodIn_r _ [5, 6, 7, 8, 4, 9, 10, 11, 12, 13, 14, 15, 16, 17, 18, 19, 20, 21, 22, 23, 24, 25, 26, 27, 28, 29, 30, 31, 32, 33, 34, 35, 36, 37, 38, 152, 153, 154, 155, 156, 157, 158, 159, 160, 161] (by decide +kernel) (by decide +kernel)) (goodIn_sub (fun _ h => List.mem_cons_of_mem _ (List.mem_append_right _ h)) (by decide +kernel))
set_option maxRecDepth 20000 in
theorem gX2_mixRow_X2_sizeOf : GoodIn wsX2_mixRow (wsV RX2 181 RX2 yX2_sizeOf wsX2_sizeOf) := goodIn_app (goodIn_of _ (by decide +kernel)) ggX2_mixRow_X2_sizeOf
set_option maxRecDepth 20000 in
theorem ggX2_mixRow_X2_mix : GoodIn wsX2_mixRow wsX2_mix := goodIn_r _ [41, 42] (by decide +kernel) (by decide +kernel)
set_option maxRecDepth 20000 in
theorem gX2_mixRow_X2_mix : GoodIn wsX2_mixRow (va_wsS RX2 167 yX2_mix wsX2_mix) := goodIn_app (goodIn_of _ (by decide +kernel)) ggX2_mixRow_X2_mix
set_option maxRecDepth 20000 in
theorem ggX2_mixRow_X2_top : GoodIn wsX2_mixRow wsX2_top := goodIn_ca (goodIn_r _ [46, 47, 6, 7, 8, 4, 9, 10, 11, 12, 48, 49, 50, 51, 155, 152, 153, 154, 156, 157, 158, 159, 160, 161] (by decide +kernel) (by decide +kernel)) (goodIn_sub (fun _ h => List.mem_cons_of_mem _ (List.mem_append_right _ h)) (by decide +kernel))
set_option maxRecDepth 20000 in
theorem gX2_mixRow_X2_top : GoodIn wsX2_mixRow (wsV RX2 184 RX2 yX2_top wsX2_top) := goodIn_app (goodIn_of _ (by decide +kernel)) ggX2_mixRow_X2_top
set_option maxRecDepth 20000 in
theorem ggX2_mixRow_X2_height : GoodIn wsX2_mixRow wsX2_height := goodIn_ca (goodIn_r _ [55, 6, 7, 8, 4, 9, 10, 11, 12, 56, 57, 58, 16, 59, 60, 61, 62, 63, 64, 65, 66, 67, 18, 68, 30, 31, 22, 32, 33, 69, 70, 71, 72, 38, 73, 35, 36, 37, 28, 29, 152, 153, 154, 155, 156, 157, 158, 159, 160, 161] (by decide +kernel) (by decide +kernel)) (goodIn_sub (fun _ h => List.mem_cons_of_mem _ (List.mem_append_right _ h)) (by decide +kernel))
set_option maxRecDepth 20000 in
theorem gX2_mixRow_X2_height : GoodIn wsX2_mixRow (wsV RX2 186 RX2 yX2_height wsX2_height) := goodIn_app (goodIn_of _ (by decide +kernel)) ggX2_mixRow_X2_height
set_option maxRecDepth 20000 in
theorem ggX2_mixRow_X2_leastHeight : GoodIn wsX2_mixRow wsX2_leastHeight := goodIn_ca (goodIn_r _ [77, 6, 7, 8, 4, 9, 10, 11, 12, 13, 14, 15, 16, 17, 18, 19, 20, 21, 22, 23, 24, 25, 26, 27, 28, 29, 30, 31, 32, 33, 34, 35, 36, 37, 38, 152, 153, 154, 155, 156, 157, 158, 159, 160, 161] (by decide +kernel) (by decide +kernel)) (goodIn_sub (fun _ h => List.mem_cons_of_mem _ (List.mem_append_right _ h)) (by decide +kernel))
set_option maxRecDepth 20000 in
theorem gX2_mixRow_X2_leastHeight : GoodIn wsX2_mixRow (wsV RX2 189 RX2 yX2_leastHeight wsX2_leastHeight) := goodIn_app (goodIn_of _ (by decide +kernel)) ggX2_mixRow_X2_leastHeight
set_option maxRecDepth 20000 in
theorem ggX2_mixRow_X2_depths : GoodIn wsX2_mixRow wsX2_depths := goodIn_ca (goodIn_r _ [81, 6, 7, 8, 4, 9, 10, 11, 12, 82, 83, 84, 16, 85, 64, 65, 66, 67, 18, 68, 30, 31, 22, 32, 33, 69, 70, 71, 72, 38, 73, 35, 36, 37, 28, 29, 152, 153, 154, 155, 156, 157, 158, 159, 160, 161] (by decide +kernel) (by decide +kernel)) (goodIn_sub (fun _ h => List.mem_cons_of_mem _ (List.mem_append_right _ h)) (by decide +kernel))
set_option maxRecDepth 20000 in
theorem gX2_mixRow_X2_depths : GoodIn wsX2_mixRow (wsV RX2 192 RX2 yX2_depths wsX2_depths) := goodIn_app (goodIn_of _ (by decide +kernel)) ggX2_mixRow_X2_depths
set_option maxRecDepth 20000 in
theorem ggX2_mixRow_X2_leaves : GoodIn wsX2_mixRow wsX2_leaves := goodIn_ca (goodIn_r _ [89, 6, 7, 8, 4, 9, 10, 11, 12, 90, 91, 92, 16, 93, 94, 95, 64, 65, 66, 67, 18, 68, 30, 31, 22, 32, 33, 73, 35, 36, 37, 28, 38, 29, 152, 153, 154, 156, 157, 158, 159, 160, 161, 155] (by decide +kernel) (by decide +kernel)) (goodIn_sub (fun _ h => List.mem_cons_of_mem _ (List.mem_append_right _ h)) (by decide +kernel))
set_option maxRecDepth 20000 in
theorem gX2_mixRow_X2_leaves : GoodIn wsX2_mixRow (wsV RX2 195 RX2 yX2_leaves wsX2_leaves) := goodIn_app (goodIn_of _ (by decide +kernel)) ggX2_mixRow_X2_leaves
set_option maxRecDepth 20000 in
theorem ggX2_mixRow_X2_favourite : GoodIn wsX2_mixRow wsX2_favourite := goodIn_ca (goodIn_r _ [99, 6, 7, 8, 4, 9, 10, 11, 12, 100, 101, 102, 16, 103, 104, 64, 65, 66, 67, 18, 68, 30, 31, 22, 32, 33, 73, 35, 36, 37, 28, 38, 29, 48, 49, 50, 51, 152, 153, 154, 156, 157, 158, 159, 160, 161, 155] (by decide +kernel) (by decide +kernel)) (goodIn_sub (fun _ h => List.mem_cons_of_mem _ (List.mem_append_right _ h)) (by decide +kernel))
set_option maxRecDepth 20000 in
theorem gX2_mixRow_X2_favourite : GoodIn wsX2_mixRow (wsV RX2 198 RX2 yX2_favourite wsX2_favourite) := goodIn_app (goodIn_of _ (by decide +kernel)) ggX2_mixRow_X2_favourite
set_option maxRecDepth 20000 in
theorem ggX2_mixRow_X2_bestToEat : GoodIn wsX2_mixRow wsX2_bestToEat := goodIn_ca (goodIn_r _ [108, 109, 6, 7, 8, 4, 9, 10, 11, 12, 110, 65, 66, 16, 67, 18, 68, 30, 31, 22, 32, 33, 111, 112, 113, 114, 115, 116, 117, 118, 119, 64, 120, 121, 122, 123, 124, 38, 28, 125, 126, 127, 73, 35, 36, 37, 29, 128, 129, 130, 131, 132, 133, 69, 70, 71, 72, 134, 135, 136, 137, 138, 139, 140, 141, 142, 143, 144, 145, 146, 147, 148, 149, 150, 82, 83, 84, 85, 151, 48, 49, 50, 51, 152, 153, 154, 155, 156, 157, 158, 159, 160, 161] (by decide +kernel) (by decide +kernel)) (goodIn_sub (fun _ h => List.mem_cons_of_mem _ (List.mem_append_right _ h)) (by decide +kernel))
set_option maxRecDepth 20000 in
theorem gX2_mixRow_X2_bestToEat : GoodIn wsX2_mixRow (wsV RX2 201 RX2 yX2_bestToEat wsX2_bestToEat) := goodIn_app (goodIn_of _ (by decide +kernel)) ggX2_mixRow_X2_bestToEat
theorem dX2_mixRow_0 : decode cX2_mixRow 0 = .ok (.lload_n 1, 1) := by decide +kernel
theorem dX2_mixRow_1 : decode cX2_mixRow 1 = .ok (.lstore 4, 2) := by decide +kernel
theorem dX2_mixRow_3 : decode cX2_mixRow 3 = .ok (.lload 4, 2) := by decide +kernel
theorem dX2_mixRow_5 : decode cX2_mixRow 5 = .ok (.aload_n 0, 1) := by decide +kernel
theorem dX2_mixRow_6 : decode cX2_mixRow 6 = .ok (.iload_n 3, 1) := by decide +kernel
theorem dX2_mixRow_7 : decode cX2_mixRow 7 = .ok (.invokevirtual 181, 3) := by decide +kernel
theorem dX2_mixRow_10 : decode cX2_mixRow 10 = .ok (.invokestatic 167, 3) := by decide +kernel
theorem dX2_mixRow_13 : decode cX2_mixRow 13 = .ok (.lstore 4, 2) := by decide +kernel
theorem dX2_mixRow_15 : decode cX2_mixRow 15 = .ok (.lload 4, 2) := by decide +kernel
theorem dX2_mixRow_17 : decode cX2_mixRow 17 = .ok (.aload_n 0, 1) := by decide +kernel
theorem dX2_mixRow_18 : decode cX2_mixRow 18 = .ok (.iload_n 3, 1) := by decide +kernel
theorem dX2_mixRow_19 : decode cX2_mixRow 19 = .ok (.invokevirtual 184, 3) := by decide +kernel
theorem dX2_mixRow_22 : decode cX2_mixRow 22 = .ok (.invokestatic 167, 3) := by decide +kernel
theorem dX2_mixRow_25 : decode cX2_mixRow 25 = .ok (.lstore 4, 2) := by decide +kernel
theorem dX2_mixRow_27 : decode cX2_mixRow 27 = .ok (.lload 4, 2) := by decide +kernel
theorem dX2_mixRow_29 : decode cX2_mixRow 29 = .ok (.aload_n 0, 1) := by decide +kernel
theorem dX2_mixRow_30 : decode cX2_mixRow 30 = .ok (.iload_n 3, 1) := by decide +kernel
theorem dX2_mixRow_31 : decode cX2_mixRow 31 = .ok (.invokevirtual 186, 3) := by decide +kernel
theorem dX2_mixRow_34 : decode cX2_mixRow 34 = .ok (.invokestatic 167, 3) := by decide +kernel
theorem dX2_mixRow_37 : decode cX2_mixRow 37 = .ok (.lstore 4, 2) := by decide +kernel
theorem dX2_mixRow_39 : decode cX2_mixRow 39 = .ok (.lload 4, 2) := by decide +kernel
theorem dX2_mixRow_41 : decode cX2_mixRow 41 = .ok (.aload_n 0, 1) := by decide +kernel
theorem dX2_mixRow_42 : decode cX2_mixRow 42 = .ok (.iload_n 3, 1) := by decide +kernel
theorem dX2_mixRow_43 : decode cX2_mixRow 43 = .ok (.invokevirtual 189, 3) := by decide +kernel
theorem dX2_mixRow_46 : decode cX2_mixRow 46 = .ok (.invokestatic 167, 3) := by decide +kernel
theorem dX2_mixRow_49 : decode cX2_mixRow 49 = .ok (.lstore 4, 2) := by decide +kernel
theorem dX2_mixRow_51 : decode cX2_mixRow 51 = .ok (.lload 4, 2) := by decide +kernel
theorem dX2_mixRow_53 : decode cX2_mixRow 53 = .ok (.aload_n 0, 1) := by decide +kernel
theorem dX2_mixRow_54 : decode cX2_mixRow 54 = .ok (.iload_n 3, 1) := by decide +kernel
theorem dX2_mixRow_55 : decode cX2_mixRow 55 = .ok (.invokevirtual 192, 3) := by decide +kernel
theorem dX2_mixRow_58 : decode cX2_mixRow 58 = .ok (.invokestatic 167, 3) := by decide +kernel
theorem dX2_mixRow_61 : decode cX2_mixRow 61 = .ok (.lstore 4, 2) := by decide +kernel
theorem dX2_mixRow_63 : decode cX2_mixRow 63 = .ok (.lload 4, 2) := by decide +kernel
theorem dX2_mixRow_65 : decode cX2_mixRow 65 = .ok (.aload_n 0, 1) := by decide +kernel
theorem dX2_mixRow_66 : decode cX2_mixRow 66 = .ok (.iload_n 3, 1) := by decide +kernel
theorem dX2_mixRow_67 : decode cX2_mixRow 67 = .ok (.invokevirtual 195, 3) := by decide +kernel
theorem dX2_mixRow_70 : decode cX2_mixRow 70 = .ok (.invokestatic 167, 3) := by decide +kernel
theorem dX2_mixRow_73 : decode cX2_mixRow 73 = .ok (.lstore 4, 2) := by decide +kernel
theorem dX2_mixRow_75 : decode cX2_mixRow 75 = .ok (.lload 4, 2) := by decide +kernel
theorem dX2_mixRow_77 : decode cX2_mixRow 77 = .ok (.aload_n 0, 1) := by decide +kernel
theorem dX2_mixRow_78 : decode cX2_mixRow 78 = .ok (.iload_n 3, 1) := by decide +kernel
theorem dX2_mixRow_79 : decode cX2_mixRow 79 = .ok (.invokevirtual 198, 3) := by decide +kernel
theorem dX2_mixRow_82 : decode cX2_mixRow 82 = .ok (.invokestatic 167, 3) := by decide +kernel
theorem dX2_mixRow_85 : decode cX2_mixRow 85 = .ok (.lstore 4, 2) := by decide +kernel
theorem dX2_mixRow_87 : decode cX2_mixRow 87 = .ok (.lload 4, 2) := by decide +kernel
theorem dX2_mixRow_89 : decode cX2_mixRow 89 = .ok (.aload_n 0, 1) := by decide +kernel
theorem dX2_mixRow_90 : decode cX2_mixRow 90 = .ok (.iload_n 3, 1) := by decide +kernel
theorem dX2_mixRow_91 : decode cX2_mixRow 91 = .ok (.invokevirtual 201, 3) := by decide +kernel
theorem dX2_mixRow_94 : decode cX2_mixRow 94 = .ok (.invokestatic 167, 3) := by decide +kernel
theorem dX2_mixRow_97 : decode cX2_mixRow 97 = .ok (.lreturn, 1) := by decide +kernel
set_option maxRecDepth 20000 in
theorem ggX2_mixApple_X2_mix : GoodIn wsX2_mixApple wsX2_mix := goodIn_r _ [9, 10] (by decide +kernel) (by decide +kernel)
set_option maxRecDepth 20000 in
theorem gX2_mixApple_X2_mix : GoodIn wsX2_mixApple (va_wsS RX2 167 yX2_mix wsX2_mix) := goodIn_app (goodIn_of _ (by decide +kernel)) ggX2_mixApple_X2_mix
set_option maxRecDepth 20000 in
theorem ggX2_mixApple_X0_depth : GoodIn wsX2_mixApple wsX0_depth := goodIn_r _ [15, 16, 38, 39, 40, 41, 42, 43] (by decide +kernel) (by decide +kernel)
set_option maxRecDepth 20000 in
theorem gX2_mixApple_X0_depth : GoodIn wsX2_mixApple (wsV RX2 140 RX0 yX0_depth wsX0_depth) := goodIn_app (goodIn_of _ (by decide +kernel)) ggX2_mixApple_X0_depth
set_option maxRecDepth 20000 in
theorem ggX2_mixApple_X2_sizeOrNone : GoodIn wsX2_mixApple wsX2_sizeOrNone := goodIn_r _ [19, 1, 38, 39, 40, 41, 42, 43] (by decide +kernel) (by decide +kernel)
set_option maxRecDepth 20000 in
theorem gX2_mixApple_X2_sizeOrNone : GoodIn wsX2_mixApple (va_wsS RX2 105 yX2_sizeOrNone wsX2_sizeOrNone) := goodIn_app (goodIn_of _ (by decide +kernel)) ggX2_mixApple_X2_sizeOrNone
set_option maxRecDepth 20000 in
theorem ggX2_mixApple_X0_countUnder : GoodIn wsX2_mixApple wsX0_countUnder := goodIn_r _ [23, 24, 25, 26, 14, 27, 28, 29, 30, 31, 32, 33, 34, 35, 36, 37, 16, 38, 39, 40, 41, 42, 43] (by decide +kernel) (by decide +kernel)
set_option maxRecDepth 20000 in
theorem gX2_mixApple_X0_countUnder : GoodIn wsX2_mixApple (wsV RX2 146 RX0 yX0_countUnder wsX0_countUnder) := goodIn_app (goodIn_of _ (by decide +kernel)) ggX2_mixApple_X0_countUnder
theorem dX2_mixApple_0 : decode cX2_mixApple 0 = .ok (.lload_n 0, 1) := by decide +kernel
theorem dX2_mixApple_1 : decode cX2_mixApple 1 = .ok (.lstore_n 3, 1) := by decide +kernel
theorem dX2_mixApple_2 : decode cX2_mixApple 2 = .ok (.lload_n 3, 1) := by decide +kernel
theorem dX2_mixApple_3 : decode cX2_mixApple 3 = .ok (.aload_n 2, 1) := by decide +kernel
theorem dX2_mixApple_4 : decode cX2_mixApple 4 = .ok (.getfield 130, 3) := by decide +kernel
theorem dX2_mixApple_7 : decode cX2_mixApple 7 = .ok (.invokestatic 167, 3) := by decide +kernel
theorem dX2_mixApple_10 : decode cX2_mixApple 10 = .ok (.lstore_n 3, 1) := by decide +kernel
theorem dX2_mixApple_11 : decode cX2_mixApple 11 = .ok (.lload_n 3, 1) := by decide +kernel
theorem dX2_mixApple_12 : decode cX2_mixApple 12 = .ok (.aload_n 2, 1) := by decide +kernel
theorem dX2_mixApple_13 : decode cX2_mixApple 13 = .ok (.invokevirtual 140, 3) := by decide +kernel
theorem dX2_mixApple_16 : decode cX2_mixApple 16 = .ok (.invokestatic 167, 3) := by decide +kernel
theorem dX2_mixApple_19 : decode cX2_mixApple 19 = .ok (.lstore_n 3, 1) := by decide +kernel
theorem dX2_mixApple_20 : decode cX2_mixApple 20 = .ok (.lload_n 3, 1) := by decide +kernel
theorem dX2_mixApple_21 : decode cX2_mixApple 21 = .ok (.aload_n 2, 1) := by decide +kernel
theorem dX2_mixApple_22 : decode cX2_mixApple 22 = .ok (.getfield 143, 3) := by decide +kernel
theorem dX2_mixApple_25 : decode cX2_mixApple 25 = .ok (.invokestatic 105, 3) := by decide +kernel
theorem dX2_mixApple_28 : decode cX2_mixApple 28 = .ok (.invokestatic 167, 3) := by decide +kernel
theorem dX2_mixApple_31 : decode cX2_mixApple 31 = .ok (.lstore_n 3, 1) := by decide +kernel
theorem dX2_mixApple_32 : decode cX2_mixApple 32 = .ok (.lload_n 3, 1) := by decide +kernel
theorem dX2_mixApple_33 : decode cX2_mixApple 33 = .ok (.aload_n 2, 1) := by decide +kernel
theorem dX2_mixApple_34 : decode cX2_mixApple 34 = .ok (.getfield 66, 3) := by decide +kernel
theorem dX2_mixApple_37 : decode cX2_mixApple 37 = .ok (.invokestatic 105, 3) := by decide +kernel
theorem dX2_mixApple_40 : decode cX2_mixApple 40 = .ok (.invokestatic 167, 3) := by decide +kernel
theorem dX2_mixApple_43 : decode cX2_mixApple 43 = .ok (.lstore_n 3, 1) := by decide +kernel
theorem dX2_mixApple_44 : decode cX2_mixApple 44 = .ok (.lload_n 3, 1) := by decide +kernel
theorem dX2_mixApple_45 : decode cX2_mixApple 45 = .ok (.aload_n 2, 1) := by decide +kernel
theorem dX2_mixApple_46 : decode cX2_mixApple 46 = .ok (.getfield 73, 3) := by decide +kernel
theorem dX2_mixApple_49 : decode cX2_mixApple 49 = .ok (.invokestatic 105, 3) := by decide +kernel
theorem dX2_mixApple_52 : decode cX2_mixApple 52 = .ok (.invokestatic 167, 3) := by decide +kernel
theorem dX2_mixApple_55 : decode cX2_mixApple 55 = .ok (.lstore_n 3, 1) := by decide +kernel
theorem dX2_mixApple_56 : decode cX2_mixApple 56 = .ok (.lload_n 3, 1) := by decide +kernel
theorem dX2_mixApple_57 : decode cX2_mixApple 57 = .ok (.aload_n 2, 1) := by decide +kernel
theorem dX2_mixApple_58 : decode cX2_mixApple 58 = .ok (.invokevirtual 146, 3) := by decide +kernel
theorem dX2_mixApple_61 : decode cX2_mixApple 61 = .ok (.invokestatic 167, 3) := by decide +kernel
theorem dX2_mixApple_64 : decode cX2_mixApple 64 = .ok (.lstore_n 3, 1) := by decide +kernel
theorem dX2_mixApple_65 : decode cX2_mixApple 65 = .ok (.lload_n 3, 1) := by decide +kernel
theorem dX2_mixApple_66 : decode cX2_mixApple 66 = .ok (.aload_n 2, 1) := by decide +kernel
theorem dX2_mixApple_67 : decode cX2_mixApple 67 = .ok (.getfield 62, 3) := by decide +kernel
theorem dX2_mixApple_70 : decode cX2_mixApple 70 = .ok (.invokestatic 167, 3) := by decide +kernel
theorem dX2_mixApple_73 : decode cX2_mixApple 73 = .ok (.lreturn, 1) := by decide +kernel
theorem dX2_mix_0 : decode cX2_mix 0 = .ok (.lload_n 0, 1) := by decide +kernel
theorem dX2_mix_1 : decode cX2_mix 1 = .ok (.ldc2_w 204, 3) := by decide +kernel
theorem dX2_mix_4 : decode cX2_mix 4 = .ok (.lmul, 1) := by decide +kernel
theorem dX2_mix_5 : decode cX2_mix 5 = .ok (.iload_n 2, 1) := by decide +kernel
theorem dX2_mix_6 : decode cX2_mix 6 = .ok (.i2l, 1) := by decide +kernel
theorem dX2_mix_7 : decode cX2_mix 7 = .ok (.ladd, 1) := by decide +kernel
theorem dX2_mix_8 : decode cX2_mix 8 = .ok (.lreturn, 1) := by decide +kernel
theorem dX2_treeOf_0 : decode cX2_treeOf 0 = .ok (.iload_n 1, 1) := by decide +kernel
theorem dX2_treeOf_1 : decode cX2_treeOf 1 = .ok (.ifCond .lt 12, 3) := by decide +kernel
theorem dX2_treeOf_4 : decode cX2_treeOf 4 = .ok (.iload_n 1, 1) := by decide +kernel
theorem dX2_treeOf_5 : decode cX2_treeOf 5 = .ok (.aload_n 0, 1) := by decide +kernel
theorem dX2_treeOf_6 : decode cX2_treeOf 6 = .ok (.getfield 11, 3) := by decide +kernel
theorem dX2_treeOf_9 : decode cX2_treeOf 9 = .ok (.arraylength, 1) := by decide +kernel
theorem dX2_treeOf_10 : decode cX2_treeOf 10 = .ok (.if_icmp .lt 13, 3) := by decide +kernel
theorem dX2_treeOf_13 : decode cX2_treeOf 13 = .ok (.new 125, 3) := by decide +kernel
theorem dX2_treeOf_16 : decode cX2_treeOf 16 = .ok (.dup, 1) := by decide +kernel
theorem dX2_treeOf_17 : decode cX2_treeOf 17 = .ok (.ldc 206, 2) := by decide +kernel
theorem dX2_treeOf_19 : decode cX2_treeOf 19 = .ok (.invokespecial 129, 3) := by decide +kernel
theorem dX2_treeOf_22 : decode cX2_treeOf 22 = .ok (.athrow, 1) := by decide +kernel
theorem dX2_treeOf_23 : decode cX2_treeOf 23 = .ok (.aload_n 0, 1) := by decide +kernel
theorem dX2_treeOf_24 : decode cX2_treeOf 24 = .ok (.getfield 11, 3) := by decide +kernel
theorem dX2_treeOf_27 : decode cX2_treeOf 27 = .ok (.iload_n 1, 1) := by decide +kernel
theorem dX2_treeOf_28 : decode cX2_treeOf 28 = .ok (.aaload, 1) := by decide +kernel
theorem dX2_treeOf_29 : decode cX2_treeOf 29 = .ok (.areturn, 1) := by decide +kernel
theorem dX2_checkSize_0 : decode cX2_checkSize 0 = .ok (.iload_n 0, 1) := by decide +kernel
theorem dX2_checkSize_1 : decode cX2_checkSize 1 = .ok (.ifCond .lt 10, 3) := by decide +kernel
theorem dX2_checkSize_4 : decode cX2_checkSize 4 = .ok (.iload_n 0, 1) := by decide +kernel
theorem dX2_checkSize_5 : decode cX2_checkSize 5 = .ok (.sipush 999, 3) := by decide +kernel
theorem dX2_checkSize_8 : decode cX2_checkSize 8 = .ok (.if_icmp .le 13, 3) := by decide +kernel
theorem dX2_checkSize_11 : decode cX2_checkSize 11 = .ok (.new 208, 3) := by decide +kernel
theorem dX2_checkSize_14 : decode cX2_checkSize 14 = .ok (.dup, 1) := by decide +kernel
theorem dX2_checkSize_15 : decode cX2_checkSize 15 = .ok (.ldc 210, 2) := by decide +kernel
theorem dX2_checkSize_17 : decode cX2_checkSize 17 = .ok (.invokespecial 212, 3) := by decide +kernel
theorem dX2_checkSize_20 : decode cX2_checkSize 20 = .ok (.athrow, 1) := by decide +kernel
theorem dX2_checkSize_21 : decode cX2_checkSize 21 = .ok (.return_, 1) := by decide +kernel
set_option maxRecDepth 20000 in
theorem ggX2_appleOf_X1_find : GoodIn wsX2_appleOf wsX1_find := goodIn_r _ [7, 8, 9, 10, 11, 6, 12, 13, 14, 15, 16, 17, 18, 19, 20, 21, 22, 23, 24, 25, 26, 27, 28] (by decide +kernel) (by decide +kernel)
set_option maxRecDepth 20000 in
theorem gX2_appleOf_X1_find : GoodIn wsX2_appleOf (wsV RX2 39 RX1 yX1_find wsX1_find) := goodIn_app (goodIn_of _ (by decide +kernel)) ggX2_appleOf_X1_find
theorem dX2_appleOf_0 : decode cX2_appleOf 0 = .ok (.aload_n 0, 1) := by decide +kernel
theorem dX2_appleOf_1 : decode cX2_appleOf 1 = .ok (.iload_n 1, 1) := by decide +kernel
theorem dX2_appleOf_2 : decode cX2_appleOf 2 = .ok (.invokevirtual 39, 3) := by decide +kernel
theorem dX2_appleOf_5 : decode cX2_appleOf 5 = .ok (.astore_n 2, 1) := by decide +kernel
theorem dX2_appleOf_6 : decode cX2_appleOf 6 = .ok (.aload_n 2, 1) := by decide +kernel
theorem dX2_appleOf_7 : decode cX2_appleOf 7 = .ok (.ifnonnull 13, 3) := by decide +kernel
theorem dX2_appleOf_10 : decode cX2_appleOf 10 = .ok (.new 32, 3) := by decide +kernel
theorem dX2_appleOf_13 : decode cX2_appleOf 13 = .ok (.dup, 1) := by decide +kernel
theorem dX2_appleOf_14 : decode cX2_appleOf 14 = .ok (.ldc 213, 2) := by decide +kernel
theorem dX2_appleOf_16 : decode cX2_appleOf 16 = .ok (.invokespecial 36, 3) := by decide +kernel
theorem dX2_appleOf_19 : decode cX2_appleOf 19 = .ok (.athrow, 1) := by decide +kernel
theorem dX2_appleOf_20 : decode cX2_appleOf 20 = .ok (.aload_n 2, 1) := by decide +kernel
theorem dX2_appleOf_21 : decode cX2_appleOf 21 = .ok (.areturn, 1) := by decide +kernel
theorem dX2_sizeOrNone_0 : decode cX2_sizeOrNone 0 = .ok (.aload_n 0, 1) := by decide +kernel
theorem dX2_sizeOrNone_1 : decode cX2_sizeOrNone 1 = .ok (.ifnonnull 7, 3) := by decide +kernel
theorem dX2_sizeOrNone_4 : decode cX2_sizeOrNone 4 = .ok (.iconst (-1), 1) := by decide +kernel
theorem dX2_sizeOrNone_5 : decode cX2_sizeOrNone 5 = .ok (.goto 7, 3) := by decide +kernel
theorem dX2_sizeOrNone_8 : decode cX2_sizeOrNone 8 = .ok (.aload_n 0, 1) := by decide +kernel
theorem dX2_sizeOrNone_9 : decode cX2_sizeOrNone 9 = .ok (.getfield 130, 3) := by decide +kernel
theorem dX2_sizeOrNone_12 : decode cX2_sizeOrNone 12 = .ok (.ireturn, 1) := by decide +kernel
set_option maxRecDepth 20000 in
theorem ggX2_mayJoin_X1_last : GoodIn wsX2_mayJoin wsX1_last := goodIn_r _ [6, 7, 8, 9, 10, 11, 12, 13, 29, 23, 24, 25, 26, 27, 28] (by decide +kernel) (by decide +kernel)
set_option maxRecDepth 20000 in
theorem gX2_mayJoin_X1_last : GoodIn wsX2_mayJoin (wsV RX2 119 RX1 yX1_last wsX1_last) := goodIn_app (goodIn_of _ (by decide +kernel)) ggX2_mayJoin_X1_last
set_option maxRecDepth 20000 in
theorem ggX2_mayJoin_X1_first : GoodIn wsX2_mayJoin wsX1_first := goodIn_r _ [17, 7, 18, 19, 20, 11, 21, 22, 29, 23, 24, 25, 26, 27, 28] (by decide +kernel) (by decide +kernel)
set_option maxRecDepth 20000 in
theorem gX2_mayJoin_X1_first : GoodIn wsX2_mayJoin (wsV RX2 115 RX1 yX1_first wsX1_first) := goodIn_app (goodIn_of _ (by decide +kernel)) ggX2_mayJoin_X1_first
theorem dX2_mayJoin_0 : decode cX2_mayJoin 0 = .ok (.aload_n 0, 1) := by decide +kernel
theorem dX2_mayJoin_1 : decode cX2_mayJoin 1 = .ok (.aload_n 1, 1) := by decide +kernel
theorem dX2_mayJoin_2 : decode cX2_mayJoin 2 = .ok (.if_acmp .ne 5, 3) := by decide +kernel
theorem dX2_mayJoin_5 : decode cX2_mayJoin 5 = .ok (.iconst 0, 1) := by decide +kernel
theorem dX2_mayJoin_6 : decode cX2_mayJoin 6 = .ok (.ireturn, 1) := by decide +kernel
theorem dX2_mayJoin_7 : decode cX2_mayJoin 7 = .ok (.aload_n 0, 1) := by decide +kernel
theorem dX2_mayJoin_8 : decode cX2_mayJoin 8 = .ok (.invokevirtual 119, 3) := by decide +kernel
theorem dX2_mayJoin_11 : decode cX2_mayJoin 11 = .ok (.astore_n 2, 1) := by decide +kernel
theorem dX2_mayJoin_12 : decode cX2_mayJoin 12 = .ok (.aload_n 1, 1) := by decide +kernel
theorem dX2_mayJoin_13 : decode cX2_mayJoin 13 = .ok (.invokevirtual 115, 3) := by decide +kernel
theorem dX2_mayJoin_16 : decode cX2_mayJoin 16 = .ok (.astore_n 3, 1) := by decide +kernel
theorem dX2_mayJoin_17 : decode cX2_mayJoin 17 = .ok (.aload_n 2, 1) := by decide +kernel
theorem dX2_mayJoin_18 : decode cX2_mayJoin 18 = .ok (.ifnull 18, 3) := by decide +kernel
theorem dX2_mayJoin_21 : decode cX2_mayJoin 21 = .ok (.aload_n 3, 1) := by decide +kernel
theorem dX2_mayJoin_22 : decode cX2_mayJoin 22 = .ok (.ifnull 14, 3) := by decide +kernel
theorem dX2_mayJoin_25 : decode cX2_mayJoin 25 = .ok (.aload_n 2, 1) := by decide +kernel
theorem dX2_mayJoin_26 : decode cX2_mayJoin 26 = .ok (.getfield 130, 3) := by decide +kernel
theorem dX2_mayJoin_29 : decode cX2_mayJoin 29 = .ok (.aload_n 3, 1) := by decide +kernel
theorem dX2_mayJoin_30 : decode cX2_mayJoin 30 = .ok (.getfield 130, 3) := by decide +kernel
theorem dX2_mayJoin_33 : decode cX2_mayJoin 33 = .ok (.if_icmp .ge 7, 3) := by decide +kernel
theorem dX2_mayJoin_36 : decode cX2_mayJoin 36 = .ok (.iconst 1, 1) := by decide +kernel
theorem dX2_mayJoin_37 : decode cX2_mayJoin 37 = .ok (.goto 4, 3) := by decide +kernel
theorem dX2_mayJoin_40 : decode cX2_mayJoin 40 = .ok (.iconst 0, 1) := by decide +kernel
theorem dX2_mayJoin_41 : decode cX2_mayJoin 41 = .ok (.ireturn, 1) := by decide +kernel
set_option maxRecDepth 20000 in
theorem ggX2_bringUp_X1_bringUp : GoodIn wsX2_bringUp wsX1_bringUp := goodIn_r _ [6, 7, 8, 9, 10, 11, 12, 13, 14, 15, 16, 17, 18, 19, 20, 21, 22, 23, 24, 25, 26, 27, 28, 29, 30, 31, 32, 33, 37, 38, 39, 40, 41, 42, 43] (by decide +kernel) (by decide +kernel)
set_option maxRecDepth 20000 in
theorem gX2_bringUp_X1_bringUp : GoodIn wsX2_bringUp (wsV RX2 215 RX1 yX1_bringUp wsX1_bringUp) := goodIn_app (goodIn_of _ (by decide +kernel)) ggX2_bringUp_X1_bringUp
theorem dX2_bringUp_0 : decode cX2_bringUp 0 = .ok (.aload_n 1, 1) := by decide +kernel
theorem dX2_bringUp_1 : decode cX2_bringUp 1 = .ok (.aload_n 2, 1) := by decide +kernel
theorem dX2_bringUp_2 : decode cX2_bringUp 2 = .ok (.invokevirtual 215, 3) := by decide +kernel
theorem dX2_bringUp_5 : decode cX2_bringUp 5 = .ok (.istore_n 3, 1) := by decide +kernel
theorem dX2_bringUp_6 : decode cX2_bringUp 6 = .ok (.aload_n 0, 1) := by decide +kernel
theorem dX2_bringUp_7 : decode cX2_bringUp 7 = .ok (.dup, 1) := by decide +kernel
theorem dX2_bringUp_8 : decode cX2_bringUp 8 = .ok (.getfield 102, 3) := by decide +kernel
theorem dX2_bringUp_11 : decode cX2_bringUp 11 = .ok (.iload_n 3, 1) := by decide +kernel
theorem dX2_bringUp_12 : decode cX2_bringUp 12 = .ok (.iadd, 1) := by decide +kernel
theorem dX2_bringUp_13 : decode cX2_bringUp 13 = .ok (.putfield 102, 3) := by decide +kernel
theorem dX2_bringUp_16 : decode cX2_bringUp 16 = .ok (.iload_n 3, 1) := by decide +kernel
theorem dX2_bringUp_17 : decode cX2_bringUp 17 = .ok (.ireturn, 1) := by decide +kernel
set_option maxRecDepth 20000 in
theorem ggX2_append_X1_last : GoodIn wsX2_append wsX1_last := goodIn_r _ [5, 6, 7, 8, 9, 10, 11, 12, 52, 53, 54, 55, 56, 57, 58] (by decide +kernel) (by decide +kernel)
set_option maxRecDepth 20000 in
theorem gX2_append_X1_last : GoodIn wsX2_append (wsV RX2 119 RX1 yX1_last wsX1_last) := goodIn_app (goodIn_of _ (by decide +kernel)) ggX2_append_X1_last
set_option maxRecDepth 20000 in
theorem ggX2_append_X1_setTop : GoodIn wsX2_append wsX1_setTop := goodIn_r _ [16, 6, 17, 52, 53, 54, 55, 56, 57, 58] (by decide +kernel) (by decide +kernel)
set_option maxRecDepth 20000 in
theorem gX2_append_X1_setTop : GoodIn wsX2_append (wsV RX2 70 RX1 yX1_setTop wsX1_setTop) := goodIn_app (goodIn_of _ (by decide +kernel)) ggX2_append_X1_setTop
set_option maxRecDepth 20000 in
theorem ggX2_append_X2_bringUp : GoodIn wsX2_append wsX2_bringUp := goodIn_r _ [22, 23, 24, 25, 26, 4, 27, 17, 6, 28, 29, 30, 10, 31, 32, 33, 34, 35, 36, 37, 38, 39, 40, 41, 12, 42, 43, 44, 45, 46, 47, 48, 49, 50, 59, 60, 61, 53, 54, 55, 56, 57, 58, 52] (by decide +kernel) (by decide +kernel)
set_option maxRecDepth 20000 in
theorem gX2_append_X2_bringUp : GoodIn wsX2_append (wsV RX2 54 RX2 yX2_bringUp wsX2_bringUp) := goodIn_app (goodIn_of _ (by decide +kernel)) ggX2_append_X2_bringUp
set_option maxRecDepth 20000 in
theorem ggX2_append_X0_hangRight : GoodIn wsX2_append wsX0_hangRight := goodIn_r _ [50, 12, 32, 53, 54, 55, 56, 57, 58] (by decide +kernel) (by decide +kernel)
set_option maxRecDepth 20000 in
theorem gX2_append_X0_hangRight : GoodIn wsX2_append (wsV RX2 90 RX0 yX0_hangRight wsX0_hangRight) := goodIn_app (goodIn_of _ (by decide +kernel)) ggX2_append_X0_hangRight
theorem dX2_append_0 : decode cX2_append 0 = .ok (.aload_n 1, 1) := by decide +kernel
theorem dX2_append_1 : decode cX2_append 1 = .ok (.invokevirtual 119, 3) := by decide +kernel
theorem dX2_append_4 : decode cX2_append 4 = .ok (.astore_n 3, 1) := by decide +kernel
theorem dX2_append_5 : decode cX2_append 5 = .ok (.aload_n 3, 1) := by decide +kernel
theorem dX2_append_6 : decode cX2_append 6 = .ok (.ifnonnull 11, 3) := by decide +kernel
theorem dX2_append_9 : decode cX2_append 9 = .ok (.aload_n 1, 1) := by decide +kernel
theorem dX2_append_10 : decode cX2_append 10 = .ok (.aload_n 2, 1) := by decide +kernel
theorem dX2_append_11 : decode cX2_append 11 = .ok (.invokevirtual 70, 3) := by decide +kernel
theorem dX2_append_14 : decode cX2_append 14 = .ok (.goto 15, 3) := by decide +kernel
theorem dX2_append_17 : decode cX2_append 17 = .ok (.aload_n 0, 1) := by decide +kernel
theorem dX2_append_18 : decode cX2_append 18 = .ok (.aload_n 1, 1) := by decide +kernel
theorem dX2_append_19 : decode cX2_append 19 = .ok (.aload_n 3, 1) := by decide +kernel
theorem dX2_append_20 : decode cX2_append 20 = .ok (.invokevirtual 54, 3) := by decide +kernel
theorem dX2_append_23 : decode cX2_append 23 = .ok (.pop, 1) := by decide +kernel
theorem dX2_append_24 : decode cX2_append 24 = .ok (.aload_n 3, 1) := by decide +kernel
theorem dX2_append_25 : decode cX2_append 25 = .ok (.aload_n 2, 1) := by decide +kernel
theorem dX2_append_26 : decode cX2_append 26 = .ok (.invokevirtual 90, 3) := by decide +kernel
theorem dX2_append_29 : decode cX2_append 29 = .ok (.return_, 1) := by decide +kernel
set_option maxRecDepth 20000 in
theorem ggX2_tryEating_X1_standInFor : GoodIn wsX2_tryEating wsX1_standInFor := goodIn_r _ [7, 8, 9, 10, 11, 6, 12, 13, 14, 15, 16, 17, 18, 19, 20, 21, 22, 23, 24, 25, 26, 27, 28, 29, 30, 31, 32, 33, 34, 70, 64, 65, 66, 67, 68, 69] (by decide +kernel) (by decide +kernel)
set_option maxRecDepth 20000 in
theorem gX2_tryEating_X1_standInFor : GoodIn wsX2_tryEating (wsV RX2 217 RX1 yX1_standInFor wsX1_standInFor) := goodIn_app (goodIn_of _ (by decide +kernel)) ggX2_tryEating_X1_standInFor
set_option maxRecDepth 20000 in
theorem ggX2_tryEating_X1_bringUp : GoodIn wsX2_tryEating wsX1_bringUp := goodIn_r _ [38, 39, 8, 40, 41, 42, 16, 43, 24, 44, 45, 46, 47, 18, 48, 49, 50, 51, 25, 52, 53, 54, 55, 56, 57, 58, 59, 60, 64, 65, 66, 67, 68, 69, 70] (by decide +kernel) (by decide +kernel)
set_option maxRecDepth 20000 in
theorem gX2_tryEating_X1_bringUp : GoodIn wsX2_tryEating (wsV RX2 215 RX1 yX1_bringUp wsX1_bringUp) := goodIn_app (goodIn_of _ (by decide +kernel)) ggX2_tryEating_X1_bringUp
theorem dX2_tryEating_0 : decode cX2_tryEating 0 = .ok (.aload_n 0, 1) := by decide +kernel
theorem dX2_tryEating_1 : decode cX2_tryEating 1 = .ok (.getfield 16, 3) := by decide +kernel
theorem dX2_tryEating_4 : decode cX2_tryEating 4 = .ok (.aload_n 1, 1) := by decide +kernel
theorem dX2_tryEating_5 : decode cX2_tryEating 5 = .ok (.invokevirtual 217, 3) := by decide +kernel
theorem dX2_tryEating_8 : decode cX2_tryEating 8 = .ok (.aload_n 2, 1) := by decide +kernel
theorem dX2_tryEating_9 : decode cX2_tryEating 9 = .ok (.getfield 221, 3) := by decide +kernel
theorem dX2_tryEating_12 : decode cX2_tryEating 12 = .ok (.astore_n 3, 1) := by decide +kernel
theorem dX2_tryEating_13 : decode cX2_tryEating 13 = .ok (.aload_n 3, 1) := by decide +kernel
theorem dX2_tryEating_14 : decode cX2_tryEating 14 = .ok (.ifnull 12, 3) := by decide +kernel
theorem dX2_tryEating_17 : decode cX2_tryEating 17 = .ok (.aload_n 0, 1) := by decide +kernel
theorem dX2_tryEating_18 : decode cX2_tryEating 18 = .ok (.getfield 16, 3) := by decide +kernel
theorem dX2_tryEating_21 : decode cX2_tryEating 21 = .ok (.aload_n 3, 1) := by decide +kernel
theorem dX2_tryEating_22 : decode cX2_tryEating 22 = .ok (.invokevirtual 215, 3) := by decide +kernel
theorem dX2_tryEating_25 : decode cX2_tryEating 25 = .ok (.pop, 1) := by decide +kernel
theorem dX2_tryEating_26 : decode cX2_tryEating 26 = .ok (.return_, 1) := by decide +kernel
