theorem dX0_init_0 : decode cX0_init 0 = .ok (.aload_n 0, 1) := by decide +kernel
theorem dX0_init_1 : decode cX0_init 1 = .ok (.invokespecial 1, 3) := by decide +kernel
theorem dX0_init_4 : decode cX0_init 4 = .ok (.aload_n 0, 1) := by decide +kernel
theorem dX0_init_5 : decode cX0_init 5 = .ok (.iload_n 1, 1) := by decide +kernel
theorem dX0_init_6 : decode cX0_init 6 = .ok (.putfield 7, 3) := by decide +kernel
theorem dX0_init_9 : decode cX0_init 9 = .ok (.aload_n 0, 1) := by decide +kernel
theorem dX0_init_10 : decode cX0_init 10 = .ok (.aload_n 2, 1) := by decide +kernel
theorem dX0_init_11 : decode cX0_init 11 = .ok (.putfield 13, 3) := by decide +kernel
theorem dX0_init_14 : decode cX0_init 14 = .ok (.return_, 1) := by decide +kernel
theorem dX0_hangLeft_0 : decode cX0_hangLeft 0 = .ok (.aload_n 0, 1) := by decide +kernel
theorem dX0_hangLeft_1 : decode cX0_hangLeft 1 = .ok (.aload_n 1, 1) := by decide +kernel
theorem dX0_hangLeft_2 : decode cX0_hangLeft 2 = .ok (.putfield 17, 3) := by decide +kernel
theorem dX0_hangLeft_5 : decode cX0_hangLeft 5 = .ok (.aload_n 1, 1) := by decide +kernel
theorem dX0_hangLeft_6 : decode cX0_hangLeft 6 = .ok (.ifnull 8, 3) := by decide +kernel
theorem dX0_hangLeft_9 : decode cX0_hangLeft 9 = .ok (.aload_n 1, 1) := by decide +kernel
theorem dX0_hangLeft_10 : decode cX0_hangLeft 10 = .ok (.aload_n 0, 1) := by decide +kernel
theorem dX0_hangLeft_11 : decode cX0_hangLeft 11 = .ok (.putfield 20, 3) := by decide +kernel
theorem dX0_hangLeft_14 : decode cX0_hangLeft 14 = .ok (.return_, 1) := by decide +kernel
theorem dX0_hangRight_0 : decode cX0_hangRight 0 = .ok (.aload_n 0, 1) := by decide +kernel
theorem dX0_hangRight_1 : decode cX0_hangRight 1 = .ok (.aload_n 1, 1) := by decide +kernel
theorem dX0_hangRight_2 : decode cX0_hangRight 2 = .ok (.putfield 23, 3) := by decide +kernel
theorem dX0_hangRight_5 : decode cX0_hangRight 5 = .ok (.aload_n 1, 1) := by decide +kernel
theorem dX0_hangRight_6 : decode cX0_hangRight 6 = .ok (.ifnull 8, 3) := by decide +kernel
theorem dX0_hangRight_9 : decode cX0_hangRight 9 = .ok (.aload_n 1, 1) := by decide +kernel
theorem dX0_hangRight_10 : decode cX0_hangRight 10 = .ok (.aload_n 0, 1) := by decide +kernel
theorem dX0_hangRight_11 : decode cX0_hangRight 11 = .ok (.putfield 20, 3) := by decide +kernel
theorem dX0_hangRight_14 : decode cX0_hangRight 14 = .ok (.return_, 1) := by decide +kernel
theorem dX0_isOnTheLeft_0 : decode cX0_isOnTheLeft 0 = .ok (.aload_n 0, 1) := by decide +kernel
theorem dX0_isOnTheLeft_1 : decode cX0_isOnTheLeft 1 = .ok (.getfield 20, 3) := by decide +kernel
theorem dX0_isOnTheLeft_4 : decode cX0_isOnTheLeft 4 = .ok (.ifnull 18, 3) := by decide +kernel
theorem dX0_isOnTheLeft_7 : decode cX0_isOnTheLeft 7 = .ok (.aload_n 0, 1) := by decide +kernel
theorem dX0_isOnTheLeft_8 : decode cX0_isOnTheLeft 8 = .ok (.getfield 20, 3) := by decide +kernel
theorem dX0_isOnTheLeft_11 : decode cX0_isOnTheLeft 11 = .ok (.getfield 17, 3) := by decide +kernel
theorem dX0_isOnTheLeft_14 : decode cX0_isOnTheLeft 14 = .ok (.aload_n 0, 1) := by decide +kernel
theorem dX0_isOnTheLeft_15 : decode cX0_isOnTheLeft 15 = .ok (.if_acmp .ne 7, 3) := by decide +kernel
theorem dX0_isOnTheLeft_18 : decode cX0_isOnTheLeft 18 = .ok (.iconst 1, 1) := by decide +kernel
theorem dX0_isOnTheLeft_19 : decode cX0_isOnTheLeft 19 = .ok (.goto 4, 3) := by decide +kernel
theorem dX0_isOnTheLeft_22 : decode cX0_isOnTheLeft 22 = .ok (.iconst 0, 1) := by decide +kernel
theorem dX0_isOnTheLeft_23 : decode cX0_isOnTheLeft 23 = .ok (.ireturn, 1) := by decide +kernel
set_option maxRecDepth 20000 in
theorem ggX0_turn_X0_isOnTheLeft : GoodIn wsX0_turn wsX0_isOnTheLeft := goodIn_r _ [8, 1, 3, 17, 18, 19, 20, 21, 22] (by decide +kernel) (by decide +kernel)
set_option maxRecDepth 20000 in
theorem gX0_turn_X0_isOnTheLeft : GoodIn wsX0_turn (wsV RX0 26 RX0 yX0_isOnTheLeft wsX0_isOnTheLeft) := goodIn_app (goodIn_of _ (by decide +kernel)) ggX0_turn_X0_isOnTheLeft
set_option maxRecDepth 20000 in
theorem ggX0_turn_X0_hangLeft : GoodIn wsX0_turn wsX0_hangLeft := goodIn_r _ [12, 3, 1, 17, 18, 19, 20, 21, 22] (by decide +kernel) (by decide +kernel)
set_option maxRecDepth 20000 in
theorem gX0_turn_X0_hangLeft : GoodIn wsX0_turn (wsV RX0 30 RX0 yX0_hangLeft wsX0_hangLeft) := goodIn_app (goodIn_of _ (by decide +kernel)) ggX0_turn_X0_hangLeft
set_option maxRecDepth 20000 in
theorem ggX0_turn_X0_hangRight : GoodIn wsX0_turn wsX0_hangRight := goodIn_r _ [16, 2, 1, 17, 18, 19, 20, 21, 22] (by decide +kernel) (by decide +kernel)
set_option maxRecDepth 20000 in
theorem gX0_turn_X0_hangRight : GoodIn wsX0_turn (wsV RX0 34 RX0 yX0_hangRight wsX0_hangRight) := goodIn_app (goodIn_of _ (by decide +kernel)) ggX0_turn_X0_hangRight
theorem dX0_turn_0 : decode cX0_turn 0 = .ok (.aload_n 0, 1) := by decide +kernel
theorem dX0_turn_1 : decode cX0_turn 1 = .ok (.getfield 20, 3) := by decide +kernel
theorem dX0_turn_4 : decode cX0_turn 4 = .ok (.astore_n 1, 1) := by decide +kernel
theorem dX0_turn_5 : decode cX0_turn 5 = .ok (.aload_n 1, 1) := by decide +kernel
theorem dX0_turn_6 : decode cX0_turn 6 = .ok (.ifnonnull 4, 3) := by decide +kernel
theorem dX0_turn_9 : decode cX0_turn 9 = .ok (.return_, 1) := by decide +kernel
theorem dX0_turn_10 : decode cX0_turn 10 = .ok (.aload_n 1, 1) := by decide +kernel
theorem dX0_turn_11 : decode cX0_turn 11 = .ok (.getfield 20, 3) := by decide +kernel
theorem dX0_turn_14 : decode cX0_turn 14 = .ok (.astore_n 2, 1) := by decide +kernel
theorem dX0_turn_15 : decode cX0_turn 15 = .ok (.aload_n 1, 1) := by decide +kernel
theorem dX0_turn_16 : decode cX0_turn 16 = .ok (.invokevirtual 26, 3) := by decide +kernel
theorem dX0_turn_19 : decode cX0_turn 19 = .ok (.istore_n 3, 1) := by decide +kernel
theorem dX0_turn_20 : decode cX0_turn 20 = .ok (.aload_n 0, 1) := by decide +kernel
theorem dX0_turn_21 : decode cX0_turn 21 = .ok (.invokevirtual 26, 3) := by decide +kernel
theorem dX0_turn_24 : decode cX0_turn 24 = .ok (.ifCond .eq 19, 3) := by decide +kernel
theorem dX0_turn_27 : decode cX0_turn 27 = .ok (.aload_n 1, 1) := by decide +kernel
theorem dX0_turn_28 : decode cX0_turn 28 = .ok (.aload_n 0, 1) := by decide +kernel
theorem dX0_turn_29 : decode cX0_turn 29 = .ok (.getfield 23, 3) := by decide +kernel
theorem dX0_turn_32 : decode cX0_turn 32 = .ok (.invokevirtual 30, 3) := by decide +kernel
theorem dX0_turn_35 : decode cX0_turn 35 = .ok (.aload_n 0, 1) := by decide +kernel
theorem dX0_turn_36 : decode cX0_turn 36 = .ok (.aload_n 1, 1) := by decide +kernel
theorem dX0_turn_37 : decode cX0_turn 37 = .ok (.invokevirtual 34, 3) := by decide +kernel
theorem dX0_turn_40 : decode cX0_turn 40 = .ok (.goto 16, 3) := by decide +kernel
theorem dX0_turn_43 : decode cX0_turn 43 = .ok (.aload_n 1, 1) := by decide +kernel
theorem dX0_turn_44 : decode cX0_turn 44 = .ok (.aload_n 0, 1) := by decide +kernel
theorem dX0_turn_45 : decode cX0_turn 45 = .ok (.getfield 17, 3) := by decide +kernel
theorem dX0_turn_48 : decode cX0_turn 48 = .ok (.invokevirtual 34, 3) := by decide +kernel
theorem dX0_turn_51 : decode cX0_turn 51 = .ok (.aload_n 0, 1) := by decide +kernel
theorem dX0_turn_52 : decode cX0_turn 52 = .ok (.aload_n 1, 1) := by decide +kernel
theorem dX0_turn_53 : decode cX0_turn 53 = .ok (.invokevirtual 30, 3) := by decide +kernel
theorem dX0_turn_56 : decode cX0_turn 56 = .ok (.aload_n 0, 1) := by decide +kernel
theorem dX0_turn_57 : decode cX0_turn 57 = .ok (.aload_n 2, 1) := by decide +kernel
theorem dX0_turn_58 : decode cX0_turn 58 = .ok (.putfield 20, 3) := by decide +kernel
theorem dX0_turn_61 : decode cX0_turn 61 = .ok (.aload_n 2, 1) := by decide +kernel
theorem dX0_turn_62 : decode cX0_turn 62 = .ok (.ifnull 15, 3) := by decide +kernel
theorem dX0_turn_65 : decode cX0_turn 65 = .ok (.iload_n 3, 1) := by decide +kernel
theorem dX0_turn_66 : decode cX0_turn 66 = .ok (.ifCond .eq 11, 3) := by decide +kernel
theorem dX0_turn_69 : decode cX0_turn 69 = .ok (.aload_n 2, 1) := by decide +kernel
theorem dX0_turn_70 : decode cX0_turn 70 = .ok (.aload_n 0, 1) := by decide +kernel
theorem dX0_turn_71 : decode cX0_turn 71 = .ok (.invokevirtual 30, 3) := by decide +kernel
theorem dX0_turn_74 : decode cX0_turn 74 = .ok (.goto 12, 3) := by decide +kernel
theorem dX0_turn_77 : decode cX0_turn 77 = .ok (.aload_n 2, 1) := by decide +kernel
theorem dX0_turn_78 : decode cX0_turn 78 = .ok (.ifnull 8, 3) := by decide +kernel
theorem dX0_turn_81 : decode cX0_turn 81 = .ok (.aload_n 2, 1) := by decide +kernel
theorem dX0_turn_82 : decode cX0_turn 82 = .ok (.aload_n 0, 1) := by decide +kernel
theorem dX0_turn_83 : decode cX0_turn 83 = .ok (.invokevirtual 34, 3) := by decide +kernel
theorem dX0_turn_86 : decode cX0_turn 86 = .ok (.return_, 1) := by decide +kernel
theorem dX0_depth_0 : decode cX0_depth 0 = .ok (.iconst 0, 1) := by decide +kernel
theorem dX0_depth_1 : decode cX0_depth 1 = .ok (.istore_n 1, 1) := by decide +kernel
theorem dX0_depth_2 : decode cX0_depth 2 = .ok (.aload_n 0, 1) := by decide +kernel
theorem dX0_depth_3 : decode cX0_depth 3 = .ok (.getfield 20, 3) := by decide +kernel
theorem dX0_depth_6 : decode cX0_depth 6 = .ok (.astore_n 2, 1) := by decide +kernel
theorem dX0_depth_7 : decode cX0_depth 7 = .ok (.aload_n 2, 1) := by decide +kernel
theorem dX0_depth_8 : decode cX0_depth 8 = .ok (.ifnull 14, 3) := by decide +kernel
theorem dX0_depth_11 : decode cX0_depth 11 = .ok (.iinc 1 1, 3) := by decide +kernel
theorem dX0_depth_14 : decode cX0_depth 14 = .ok (.aload_n 2, 1) := by decide +kernel
theorem dX0_depth_15 : decode cX0_depth 15 = .ok (.getfield 20, 3) := by decide +kernel
theorem dX0_depth_18 : decode cX0_depth 18 = .ok (.astore_n 2, 1) := by decide +kernel
theorem dX0_depth_19 : decode cX0_depth 19 = .ok (.goto (-12), 3) := by decide +kernel
theorem dX0_depth_22 : decode cX0_depth 22 = .ok (.iload_n 1, 1) := by decide +kernel
theorem dX0_depth_23 : decode cX0_depth 23 = .ok (.ireturn, 1) := by decide +kernel
theorem dX0_towards_0 : decode cX0_towards 0 = .ok (.iload_n 1, 1) := by decide +kernel
theorem dX0_towards_1 : decode cX0_towards 1 = .ok (.aload_n 0, 1) := by decide +kernel
theorem dX0_towards_2 : decode cX0_towards 2 = .ok (.getfield 7, 3) := by decide +kernel
theorem dX0_towards_5 : decode cX0_towards 5 = .ok (.if_icmp .ne 5, 3) := by decide +kernel
theorem dX0_towards_8 : decode cX0_towards 8 = .ok (.aconst_null, 1) := by decide +kernel
theorem dX0_towards_9 : decode cX0_towards 9 = .ok (.areturn, 1) := by decide +kernel
theorem dX0_towards_10 : decode cX0_towards 10 = .ok (.iload_n 1, 1) := by decide +kernel
theorem dX0_towards_11 : decode cX0_towards 11 = .ok (.aload_n 0, 1) := by decide +kernel
theorem dX0_towards_12 : decode cX0_towards 12 = .ok (.getfield 7, 3) := by decide +kernel
theorem dX0_towards_15 : decode cX0_towards 15 = .ok (.if_icmp .ge 10, 3) := by decide +kernel
theorem dX0_towards_18 : decode cX0_towards 18 = .ok (.aload_n 0, 1) := by decide +kernel
theorem dX0_towards_19 : decode cX0_towards 19 = .ok (.getfield 17, 3) := by decide +kernel
theorem dX0_towards_22 : decode cX0_towards 22 = .ok (.goto 7, 3) := by decide +kernel
theorem dX0_towards_25 : decode cX0_towards 25 = .ok (.aload_n 0, 1) := by decide +kernel
theorem dX0_towards_26 : decode cX0_towards 26 = .ok (.getfield 23, 3) := by decide +kernel
theorem dX0_towards_29 : decode cX0_towards 29 = .ok (.areturn, 1) := by decide +kernel
theorem dX0_leastUnder_0 : decode cX0_leastUnder 0 = .ok (.aload_n 0, 1) := by decide +kernel
theorem dX0_leastUnder_1 : decode cX0_leastUnder 1 = .ok (.astore_n 1, 1) := by decide +kernel
theorem dX0_leastUnder_2 : decode cX0_leastUnder 2 = .ok (.aload_n 1, 1) := by decide +kernel
theorem dX0_leastUnder_3 : decode cX0_leastUnder 3 = .ok (.getfield 17, 3) := by decide +kernel
theorem dX0_leastUnder_6 : decode cX0_leastUnder 6 = .ok (.ifnull 11, 3) := by decide +kernel
theorem dX0_leastUnder_9 : decode cX0_leastUnder 9 = .ok (.aload_n 1, 1) := by decide +kernel
theorem dX0_leastUnder_10 : decode cX0_leastUnder 10 = .ok (.getfield 17, 3) := by decide +kernel
theorem dX0_leastUnder_13 : decode cX0_leastUnder 13 = .ok (.astore_n 1, 1) := by decide +kernel
theorem dX0_leastUnder_14 : decode cX0_leastUnder 14 = .ok (.goto (-12), 3) := by decide +kernel
theorem dX0_leastUnder_17 : decode cX0_leastUnder 17 = .ok (.aload_n 1, 1) := by decide +kernel
theorem dX0_leastUnder_18 : decode cX0_leastUnder 18 = .ok (.areturn, 1) := by decide +kernel
theorem dX0_greatestUnder_0 : decode cX0_greatestUnder 0 = .ok (.aload_n 0, 1) := by decide +kernel
theorem dX0_greatestUnder_1 : decode cX0_greatestUnder 1 = .ok (.astore_n 1, 1) := by decide +kernel
theorem dX0_greatestUnder_2 : decode cX0_greatestUnder 2 = .ok (.aload_n 1, 1) := by decide +kernel
theorem dX0_greatestUnder_3 : decode cX0_greatestUnder 3 = .ok (.getfield 23, 3) := by decide +kernel
theorem dX0_greatestUnder_6 : decode cX0_greatestUnder 6 = .ok (.ifnull 11, 3) := by decide +kernel
theorem dX0_greatestUnder_9 : decode cX0_greatestUnder 9 = .ok (.aload_n 1, 1) := by decide +kernel
theorem dX0_greatestUnder_10 : decode cX0_greatestUnder 10 = .ok (.getfield 23, 3) := by decide +kernel
theorem dX0_greatestUnder_13 : decode cX0_greatestUnder 13 = .ok (.astore_n 1, 1) := by decide +kernel
theorem dX0_greatestUnder_14 : decode cX0_greatestUnder 14 = .ok (.goto (-12), 3) := by decide +kernel
theorem dX0_greatestUnder_17 : decode cX0_greatestUnder 17 = .ok (.aload_n 1, 1) := by decide +kernel
theorem dX0_greatestUnder_18 : decode cX0_greatestUnder 18 = .ok (.areturn, 1) := by decide +kernel
set_option maxRecDepth 20000 in
theorem ggX0_next_X0_leastUnder : GoodIn wsX0_next wsX0_leastUnder := goodIn_r _ [7, 8, 9, 10, 11, 12, 13, 14] (by decide +kernel) (by decide +kernel)
set_option maxRecDepth 20000 in
theorem gX0_next_X0_leastUnder : GoodIn wsX0_next (wsV RX0 37 RX0 yX0_leastUnder wsX0_leastUnder) := goodIn_app (goodIn_of _ (by decide +kernel)) ggX0_next_X0_leastUnder
theorem dX0_next_0 : decode cX0_next 0 = .ok (.aload_n 0, 1) := by decide +kernel
theorem dX0_next_1 : decode cX0_next 1 = .ok (.getfield 23, 3) := by decide +kernel
theorem dX0_next_4 : decode cX0_next 4 = .ok (.ifnull 11, 3) := by decide +kernel
theorem dX0_next_7 : decode cX0_next 7 = .ok (.aload_n 0, 1) := by decide +kernel
theorem dX0_next_8 : decode cX0_next 8 = .ok (.getfield 23, 3) := by decide +kernel
theorem dX0_next_11 : decode cX0_next 11 = .ok (.invokevirtual 37, 3) := by decide +kernel
theorem dX0_next_14 : decode cX0_next 14 = .ok (.areturn, 1) := by decide +kernel
theorem dX0_next_15 : decode cX0_next 15 = .ok (.aload_n 0, 1) := by decide +kernel
theorem dX0_next_16 : decode cX0_next 16 = .ok (.astore_n 1, 1) := by decide +kernel
theorem dX0_next_17 : decode cX0_next 17 = .ok (.aload_n 1, 1) := by decide +kernel
theorem dX0_next_18 : decode cX0_next 18 = .ok (.getfield 20, 3) := by decide +kernel
theorem dX0_next_21 : decode cX0_next 21 = .ok (.ifnull 22, 3) := by decide +kernel
theorem dX0_next_24 : decode cX0_next 24 = .ok (.aload_n 1, 1) := by decide +kernel
theorem dX0_next_25 : decode cX0_next 25 = .ok (.getfield 20, 3) := by decide +kernel
theorem dX0_next_28 : decode cX0_next 28 = .ok (.getfield 23, 3) := by decide +kernel
theorem dX0_next_31 : decode cX0_next 31 = .ok (.aload_n 1, 1) := by decide +kernel
theorem dX0_next_32 : decode cX0_next 32 = .ok (.if_acmp .ne 11, 3) := by decide +kernel
theorem dX0_next_35 : decode cX0_next 35 = .ok (.aload_n 1, 1) := by decide +kernel
theorem dX0_next_36 : decode cX0_next 36 = .ok (.getfield 20, 3) := by decide +kernel
theorem dX0_next_39 : decode cX0_next 39 = .ok (.astore_n 1, 1) := by decide +kernel
theorem dX0_next_40 : decode cX0_next 40 = .ok (.goto (-23), 3) := by decide +kernel
theorem dX0_next_43 : decode cX0_next 43 = .ok (.aload_n 1, 1) := by decide +kernel
theorem dX0_next_44 : decode cX0_next 44 = .ok (.getfield 20, 3) := by decide +kernel
theorem dX0_next_47 : decode cX0_next 47 = .ok (.areturn, 1) := by decide +kernel
set_option maxRecDepth 20000 in
theorem ggX0_countUnder_X0_greatestUnder : GoodIn wsX0_countUnder wsX0_greatestUnder := goodIn_r _ [5, 6, 17, 18, 19, 20, 21, 22] (by decide +kernel) (by decide +kernel)
set_option maxRecDepth 20000 in
theorem gX0_countUnder_X0_greatestUnder : GoodIn wsX0_countUnder (wsV RX0 41 RX0 yX0_greatestUnder wsX0_greatestUnder) := goodIn_app (goodIn_of _ (by decide +kernel)) ggX0_countUnder_X0_greatestUnder
set_option maxRecDepth 20000 in
theorem ggX0_countUnder_X0_leastUnder : GoodIn wsX0_countUnder wsX0_leastUnder := goodIn_r _ [10, 11, 17, 18, 19, 20, 21, 22] (by decide +kernel) (by decide +kernel)
set_option maxRecDepth 20000 in
theorem gX0_countUnder_X0_leastUnder : GoodIn wsX0_countUnder (wsV RX0 37 RX0 yX0_leastUnder wsX0_leastUnder) := goodIn_app (goodIn_of _ (by decide +kernel)) ggX0_countUnder_X0_leastUnder
set_option maxRecDepth 20000 in
theorem ggX0_countUnder_X0_next : GoodIn wsX0_countUnder wsX0_next := goodIn_r _ [15, 6, 16, 7, 8, 9, 4, 10, 11, 17, 18, 19, 20, 21, 22] (by decide +kernel) (by decide +kernel)
set_option maxRecDepth 20000 in
theorem gX0_countUnder_X0_next : GoodIn wsX0_countUnder (wsV RX0 44 RX0 yX0_next wsX0_next) := goodIn_app (goodIn_of _ (by decide +kernel)) ggX0_countUnder_X0_next
theorem dX0_countUnder_0 : decode cX0_countUnder 0 = .ok (.aload_n 0, 1) := by decide +kernel
theorem dX0_countUnder_1 : decode cX0_countUnder 1 = .ok (.invokevirtual 41, 3) := by decide +kernel
theorem dX0_countUnder_4 : decode cX0_countUnder 4 = .ok (.astore_n 1, 1) := by decide +kernel
theorem dX0_countUnder_5 : decode cX0_countUnder 5 = .ok (.iconst 0, 1) := by decide +kernel
theorem dX0_countUnder_6 : decode cX0_countUnder 6 = .ok (.istore_n 2, 1) := by decide +kernel
theorem dX0_countUnder_7 : decode cX0_countUnder 7 = .ok (.aload_n 0, 1) := by decide +kernel
theorem dX0_countUnder_8 : decode cX0_countUnder 8 = .ok (.invokevirtual 37, 3) := by decide +kernel
theorem dX0_countUnder_11 : decode cX0_countUnder 11 = .ok (.astore_n 3, 1) := by decide +kernel
theorem dX0_countUnder_12 : decode cX0_countUnder 12 = .ok (.aload_n 3, 1) := by decide +kernel
theorem dX0_countUnder_13 : decode cX0_countUnder 13 = .ok (.ifnull 19, 3) := by decide +kernel
theorem dX0_countUnder_16 : decode cX0_countUnder 16 = .ok (.aload_n 3, 1) := by decide +kernel
theorem dX0_countUnder_17 : decode cX0_countUnder 17 = .ok (.aload_n 1, 1) := by decide +kernel
theorem dX0_countUnder_18 : decode cX0_countUnder 18 = .ok (.if_acmp .eq 14, 3) := by decide +kernel
theorem dX0_countUnder_21 : decode cX0_countUnder 21 = .ok (.iinc 2 1, 3) := by decide +kernel
theorem dX0_countUnder_24 : decode cX0_countUnder 24 = .ok (.aload_n 3, 1) := by decide +kernel
theorem dX0_countUnder_25 : decode cX0_countUnder 25 = .ok (.invokevirtual 44, 3) := by decide +kernel
theorem dX0_countUnder_28 : decode cX0_countUnder 28 = .ok (.astore_n 3, 1) := by decide +kernel
theorem dX0_countUnder_29 : decode cX0_countUnder 29 = .ok (.goto (-17), 3) := by decide +kernel
theorem dX0_countUnder_32 : decode cX0_countUnder 32 = .ok (.iload_n 2, 1) := by decide +kernel
theorem dX0_countUnder_33 : decode cX0_countUnder 33 = .ok (.ireturn, 1) := by decide +kernel
set_option maxRecDepth 20000 in
theorem ggX0_linkStandIn_X0_standInOf : GoodIn wsX0_linkStandIn wsX0_standInOf := goodIn_r _ [8, 1, 9, 10, 11, 12, 13, 14] (by decide +kernel) (by decide +kernel)
set_option maxRecDepth 20000 in
theorem gX0_linkStandIn_X0_standInOf : GoodIn wsX0_linkStandIn (va_wsS RX0 47 yX0_standInOf wsX0_standInOf) := goodIn_app (goodIn_of _ (by decide +kernel)) ggX0_linkStandIn_X0_standInOf
theorem dX0_linkStandIn_0 : decode cX0_linkStandIn 0 = .ok (.aload_n 0, 1) := by decide +kernel
theorem dX0_linkStandIn_1 : decode cX0_linkStandIn 1 = .ok (.getfield 13, 3) := by decide +kernel
theorem dX0_linkStandIn_4 : decode cX0_linkStandIn 4 = .ok (.ifnull 45, 3) := by decide +kernel
theorem dX0_linkStandIn_7 : decode cX0_linkStandIn 7 = .ok (.aload_n 0, 1) := by decide +kernel
theorem dX0_linkStandIn_8 : decode cX0_linkStandIn 8 = .ok (.getfield 13, 3) := by decide +kernel
theorem dX0_linkStandIn_11 : decode cX0_linkStandIn 11 = .ok (.aload_n 0, 1) := by decide +kernel
theorem dX0_linkStandIn_12 : decode cX0_linkStandIn 12 = .ok (.getfield 20, 3) := by decide +kernel
theorem dX0_linkStandIn_15 : decode cX0_linkStandIn 15 = .ok (.invokestatic 47, 3) := by decide +kernel
theorem dX0_linkStandIn_18 : decode cX0_linkStandIn 18 = .ok (.putfield 20, 3) := by decide +kernel
theorem dX0_linkStandIn_21 : decode cX0_linkStandIn 21 = .ok (.aload_n 0, 1) := by decide +kernel
theorem dX0_linkStandIn_22 : decode cX0_linkStandIn 22 = .ok (.getfield 13, 3) := by decide +kernel
theorem dX0_linkStandIn_25 : decode cX0_linkStandIn 25 = .ok (.aload_n 0, 1) := by decide +kernel
theorem dX0_linkStandIn_26 : decode cX0_linkStandIn 26 = .ok (.getfield 17, 3) := by decide +kernel
theorem dX0_linkStandIn_29 : decode cX0_linkStandIn 29 = .ok (.invokestatic 47, 3) := by decide +kernel
theorem dX0_linkStandIn_32 : decode cX0_linkStandIn 32 = .ok (.putfield 17, 3) := by decide +kernel
theorem dX0_linkStandIn_35 : decode cX0_linkStandIn 35 = .ok (.aload_n 0, 1) := by decide +kernel
theorem dX0_linkStandIn_36 : decode cX0_linkStandIn 36 = .ok (.getfield 13, 3) := by decide +kernel
theorem dX0_linkStandIn_39 : decode cX0_linkStandIn 39 = .ok (.aload_n 0, 1) := by decide +kernel
theorem dX0_linkStandIn_40 : decode cX0_linkStandIn 40 = .ok (.getfield 23, 3) := by decide +kernel
theorem dX0_linkStandIn_43 : decode cX0_linkStandIn 43 = .ok (.invokestatic 47, 3) := by decide +kernel
theorem dX0_linkStandIn_46 : decode cX0_linkStandIn 46 = .ok (.putfield 23, 3) := by decide +kernel
theorem dX0_linkStandIn_49 : decode cX0_linkStandIn 49 = .ok (.return_, 1) := by decide +kernel
theorem dX0_standInOf_0 : decode cX0_standInOf 0 = .ok (.aload_n 0, 1) := by decide +kernel
theorem dX0_standInOf_1 : decode cX0_standInOf 1 = .ok (.ifnonnull 7, 3) := by decide +kernel
theorem dX0_standInOf_4 : decode cX0_standInOf 4 = .ok (.aconst_null, 1) := by decide +kernel
theorem dX0_standInOf_5 : decode cX0_standInOf 5 = .ok (.goto 7, 3) := by decide +kernel
theorem dX0_standInOf_8 : decode cX0_standInOf 8 = .ok (.aload_n 0, 1) := by decide +kernel
theorem dX0_standInOf_9 : decode cX0_standInOf 9 = .ok (.getfield 13, 3) := by decide +kernel
theorem dX0_standInOf_12 : decode cX0_standInOf 12 = .ok (.areturn, 1) := by decide +kernel
theorem dX1_init_0 : decode cX1_init 0 = .ok (.aload_n 0, 1) := by decide +kernel
theorem dX1_init_1 : decode cX1_init 1 = .ok (.invokespecial 1, 3) := by decide +kernel
theorem dX1_init_4 : decode cX1_init 4 = .ok (.return_, 1) := by decide +kernel
theorem dX1_setTop_0 : decode cX1_setTop 0 = .ok (.aload_n 0, 1) := by decide +kernel
theorem dX1_setTop_1 : decode cX1_setTop 1 = .ok (.aload_n 1, 1) := by decide +kernel
theorem dX1_setTop_2 : decode cX1_setTop 2 = .ok (.putfield 7, 3) := by decide +kernel
theorem dX1_setTop_5 : decode cX1_setTop 5 = .ok (.aload_n 1, 1) := by decide +kernel
theorem dX1_setTop_6 : decode cX1_setTop 6 = .ok (.ifnull 8, 3) := by decide +kernel
theorem dX1_setTop_9 : decode cX1_setTop 9 = .ok (.aload_n 1, 1) := by decide +kernel
theorem dX1_setTop_10 : decode cX1_setTop 10 = .ok (.aconst_null, 1) := by decide +kernel
theorem dX1_setTop_11 : decode cX1_setTop 11 = .ok (.putfield 13, 3) := by decide +kernel
theorem dX1_setTop_14 : decode cX1_setTop 14 = .ok (.return_, 1) := by decide +kernel
set_option maxRecDepth 20000 in
theorem ggX1_first_X0_leastUnder : GoodIn wsX1_first wsX0_leastUnder := goodIn_r _ [6, 7, 9, 10, 11, 12, 13, 14] (by decide +kernel) (by decide +kernel)
set_option maxRecDepth 20000 in
theorem gX1_first_X0_leastUnder : GoodIn wsX1_first (wsV RX1 18 RX0 yX0_leastUnder wsX0_leastUnder) := goodIn_app (goodIn_of _ (by decide +kernel)) ggX1_first_X0_leastUnder
theorem dX1_first_0 : decode cX1_first 0 = .ok (.aload_n 0, 1) := by decide +kernel
theorem dX1_first_1 : decode cX1_first 1 = .ok (.getfield 7, 3) := by decide +kernel
theorem dX1_first_4 : decode cX1_first 4 = .ok (.ifnonnull 7, 3) := by decide +kernel
theorem dX1_first_7 : decode cX1_first 7 = .ok (.aconst_null, 1) := by decide +kernel
theorem dX1_first_8 : decode cX1_first 8 = .ok (.goto 10, 3) := by decide +kernel
theorem dX1_first_11 : decode cX1_first 11 = .ok (.aload_n 0, 1) := by decide +kernel
theorem dX1_first_12 : decode cX1_first 12 = .ok (.getfield 7, 3) := by decide +kernel
theorem dX1_first_15 : decode cX1_first 15 = .ok (.invokevirtual 18, 3) := by decide +kernel
theorem dX1_first_18 : decode cX1_first 18 = .ok (.areturn, 1) := by decide +kernel
set_option maxRecDepth 20000 in
theorem ggX1_last_X0_greatestUnder : GoodIn wsX1_last wsX0_greatestUnder := goodIn_r _ [6, 7, 9, 10, 11, 12, 13, 14] (by decide +kernel) (by decide +kernel)
set_option maxRecDepth 20000 in
theorem gX1_last_X0_greatestUnder : GoodIn wsX1_last (wsV RX1 22 RX0 yX0_greatestUnder wsX0_greatestUnder) := goodIn_app (goodIn_of _ (by decide +kernel)) ggX1_last_X0_greatestUnder
theorem dX1_last_0 : decode cX1_last 0 = .ok (.aload_n 0, 1) := by decide +kernel
theorem dX1_last_1 : decode cX1_last 1 = .ok (.getfield 7, 3) := by decide +kernel
theorem dX1_last_4 : decode cX1_last 4 = .ok (.ifnonnull 7, 3) := by decide +kernel
theorem dX1_last_7 : decode cX1_last 7 = .ok (.aconst_null, 1) := by decide +kernel
theorem dX1_last_8 : decode cX1_last 8 = .ok (.goto 10, 3) := by decide +kernel
theorem dX1_last_11 : decode cX1_last 11 = .ok (.aload_n 0, 1) := by decide +kernel
theorem dX1_last_12 : decode cX1_last 12 = .ok (.getfield 7, 3) := by decide +kernel
theorem dX1_last_15 : decode cX1_last 15 = .ok (.invokevirtual 22, 3) := by decide +kernel
theorem dX1_last_18 : decode cX1_last 18 = .ok (.areturn, 1) := by decide +kernel
set_option maxRecDepth 20000 in
theorem ggX1_nearest_X0_towards : GoodIn wsX1_nearest wsX0_towards := goodIn_r _ [6, 7, 8, 9, 11, 12, 13, 14, 15, 16] (by decide +kernel) (by decide +kernel)
set_option maxRecDepth 20000 in
theorem gX1_nearest_X0_towards : GoodIn wsX1_nearest (wsV RX1 25 RX0 yX0_towards wsX0_towards) := goodIn_app (goodIn_of _ (by decide +kernel)) ggX1_nearest_X0_towards
theorem dX1_nearest_0 : decode cX1_nearest 0 = .ok (.aconst_null, 1) := by decide +kernel
theorem dX1_nearest_1 : decode cX1_nearest 1 = .ok (.astore_n 2, 1) := by decide +kernel
theorem dX1_nearest_2 : decode cX1_nearest 2 = .ok (.aload_n 0, 1) := by decide +kernel
theorem dX1_nearest_3 : decode cX1_nearest 3 = .ok (.getfield 7, 3) := by decide +kernel
theorem dX1_nearest_6 : decode cX1_nearest 6 = .ok (.astore_n 3, 1) := by decide +kernel
theorem dX1_nearest_7 : decode cX1_nearest 7 = .ok (.aload_n 3, 1) := by decide +kernel
theorem dX1_nearest_8 : decode cX1_nearest 8 = .ok (.ifnull 14, 3) := by decide +kernel
theorem dX1_nearest_11 : decode cX1_nearest 11 = .ok (.aload_n 3, 1) := by decide +kernel
theorem dX1_nearest_12 : decode cX1_nearest 12 = .ok (.astore_n 2, 1) := by decide +kernel
theorem dX1_nearest_13 : decode cX1_nearest 13 = .ok (.aload_n 3, 1) := by decide +kernel
theorem dX1_nearest_14 : decode cX1_nearest 14 = .ok (.iload_n 1, 1) := by decide +kernel
theorem dX1_nearest_15 : decode cX1_nearest 15 = .ok (.invokevirtual 25, 3) := by decide +kernel
theorem dX1_nearest_18 : decode cX1_nearest 18 = .ok (.astore_n 3, 1) := by decide +kernel
theorem dX1_nearest_19 : decode cX1_nearest 19 = .ok (.goto (-12), 3) := by decide +kernel
theorem dX1_nearest_22 : decode cX1_nearest 22 = .ok (.aload_n 2, 1) := by decide +kernel
theorem dX1_nearest_23 : decode cX1_nearest 23 = .ok (.areturn, 1) := by decide +kernel
set_option maxRecDepth 20000 in
theorem ggX1_find_X1_nearest : GoodIn wsX1_find wsX1_nearest := goodIn_r _ [6, 7, 8, 9, 10, 11, 12, 13, 14, 15, 22, 16, 17, 18, 19, 20, 21] (by decide +kernel) (by decide +kernel)
set_option maxRecDepth 20000 in
theorem gX1_find_X1_nearest : GoodIn wsX1_find (wsV RX1 29 RX1 yX1_nearest wsX1_nearest) := goodIn_app (goodIn_of _ (by decide +kernel)) ggX1_find_X1_nearest
theorem dX1_find_0 : decode cX1_find 0 = .ok (.aload_n 0, 1) := by decide +kernel
theorem dX1_find_1 : decode cX1_find 1 = .ok (.iload_n 1, 1) := by decide +kernel
theorem dX1_find_2 : decode cX1_find 2 = .ok (.invokevirtual 29, 3) := by decide +kernel
theorem dX1_find_5 : decode cX1_find 5 = .ok (.astore_n 2, 1) := by decide +kernel
theorem dX1_find_6 : decode cX1_find 6 = .ok (.aload_n 2, 1) := by decide +kernel
theorem dX1_find_7 : decode cX1_find 7 = .ok (.ifnull 15, 3) := by decide +kernel
theorem dX1_find_10 : decode cX1_find 10 = .ok (.aload_n 2, 1) := by decide +kernel
theorem dX1_find_11 : decode cX1_find 11 = .ok (.getfield 32, 3) := by decide +kernel
theorem dX1_find_14 : decode cX1_find 14 = .ok (.iload_n 1, 1) := by decide +kernel
theorem dX1_find_15 : decode cX1_find 15 = .ok (.if_icmp .ne 7, 3) := by decide +kernel
theorem dX1_find_18 : decode cX1_find 18 = .ok (.aload_n 2, 1) := by decide +kernel
theorem dX1_find_19 : decode cX1_find 19 = .ok (.goto 4, 3) := by decide +kernel
theorem dX1_find_22 : decode cX1_find 22 = .ok (.aconst_null, 1) := by decide +kernel
theorem dX1_find_23 : decode cX1_find 23 = .ok (.areturn, 1) := by decide +kernel
set_option maxRecDepth 20000 in
theorem ggX1_hang_X1_nearest : GoodIn wsX1_hang wsX1_nearest := goodIn_r _ [6, 7, 8, 9, 10, 11, 12, 13, 14, 15, 36, 30, 31, 32, 33, 34, 35] (by decide +kernel) (by decide +kernel)
set_option maxRecDepth 20000 in
theorem gX1_hang_X1_nearest : GoodIn wsX1_hang (wsV RX1 29 RX1 yX1_nearest wsX1_nearest) := goodIn_app (goodIn_of _ (by decide +kernel)) ggX1_hang_X1_nearest
set_option maxRecDepth 20000 in
theorem ggX1_hang_X1_setTop : GoodIn wsX1_hang wsX1_setTop := goodIn_r _ [19, 7, 20, 36, 30, 31, 32, 33, 34, 35] (by decide +kernel) (by decide +kernel)
set_option maxRecDepth 20000 in
theorem gX1_hang_X1_setTop : GoodIn wsX1_hang (wsV RX1 36 RX1 yX1_setTop wsX1_setTop) := goodIn_app (goodIn_of _ (by decide +kernel)) ggX1_hang_X1_setTop
set_option maxRecDepth 20000 in
theorem ggX1_hang_X0_hangLeft : GoodIn wsX1_hang wsX0_hangLeft := goodIn_r _ [24, 14, 25, 30, 31, 32, 33, 34, 35] (by decide +kernel) (by decide +kernel)
set_option maxRecDepth 20000 in
theorem gX1_hang_X0_hangLeft : GoodIn wsX1_hang (wsV RX1 40 RX0 yX0_hangLeft wsX0_hangLeft) := goodIn_app (goodIn_of _ (by decide +kernel)) ggX1_hang_X0_hangLeft
set_option maxRecDepth 20000 in
theorem ggX1_hang_X0_hangRight : GoodIn wsX1_hang wsX0_hangRight := goodIn_r _ [29, 15, 25, 30, 31, 32, 33, 34, 35] (by decide +kernel) (by decide +kernel)
set_option maxRecDepth 20000 in
theorem gX1_hang_X0_hangRight : GoodIn wsX1_hang (wsV RX1 43 RX0 yX0_hangRight wsX0_hangRight) := goodIn_app (goodIn_of _ (by decide +kernel)) ggX1_hang_X0_hangRight
theorem dX1_hang_0 : decode cX1_hang 0 = .ok (.aload_n 0, 1) := by decide +kernel
theorem dX1_hang_1 : decode cX1_hang 1 = .ok (.aload_n 1, 1) := by decide +kernel
theorem dX1_hang_2 : decode cX1_hang 2 = .ok (.getfield 32, 3) := by decide +kernel
theorem dX1_hang_5 : decode cX1_hang 5 = .ok (.invokevirtual 29, 3) := by decide +kernel
theorem dX1_hang_8 : decode cX1_hang 8 = .ok (.astore_n 2, 1) := by decide +kernel
theorem dX1_hang_9 : decode cX1_hang 9 = .ok (.aload_n 2, 1) := by decide +kernel
theorem dX1_hang_10 : decode cX1_hang 10 = .ok (.ifnonnull 11, 3) := by decide +kernel
theorem dX1_hang_13 : decode cX1_hang 13 = .ok (.aload_n 0, 1) := by decide +kernel
theorem dX1_hang_14 : decode cX1_hang 14 = .ok (.aload_n 1, 1) := by decide +kernel
theorem dX1_hang_15 : decode cX1_hang 15 = .ok (.invokevirtual 36, 3) := by decide +kernel
theorem dX1_hang_18 : decode cX1_hang 18 = .ok (.goto 27, 3) := by decide +kernel
theorem dX1_hang_21 : decode cX1_hang 21 = .ok (.aload_n 1, 1) := by decide +kernel
theorem dX1_hang_22 : decode cX1_hang 22 = .ok (.getfield 32, 3) := by decide +kernel
theorem dX1_hang_25 : decode cX1_hang 25 = .ok (.aload_n 2, 1) := by decide +kernel
theorem dX1_hang_26 : decode cX1_hang 26 = .ok (.getfield 32, 3) := by decide +kernel
theorem dX1_hang_29 : decode cX1_hang 29 = .ok (.if_icmp .ge 11, 3) := by decide +kernel
theorem dX1_hang_32 : decode cX1_hang 32 = .ok (.aload_n 2, 1) := by decide +kernel
theorem dX1_hang_33 : decode cX1_hang 33 = .ok (.aload_n 1, 1) := by decide +kernel
theorem dX1_hang_34 : decode cX1_hang 34 = .ok (.invokevirtual 40, 3) := by decide +kernel
theorem dX1_hang_37 : decode cX1_hang 37 = .ok (.goto 8, 3) := by decide +kernel
theorem dX1_hang_40 : decode cX1_hang 40 = .ok (.aload_n 2, 1) := by decide +kernel
theorem dX1_hang_41 : decode cX1_hang 41 = .ok (.aload_n 1, 1) := by decide +kernel
theorem dX1_hang_42 : decode cX1_hang 42 = .ok (.invokevirtual 43, 3) := by decide +kernel
theorem dX1_hang_45 : decode cX1_hang 45 = .ok (.return_, 1) := by decide +kernel
set_option maxRecDepth 20000 in
theorem ggX1_bringUp_X0_depth : GoodIn wsX1_bringUp wsX0_depth := goodIn_r _ [7, 8, 28, 29, 30, 31, 32, 33] (by decide +kernel) (by decide +kernel)
set_option maxRecDepth 20000 in
theorem gX1_bringUp_X0_depth : GoodIn wsX1_bringUp (wsV RX1 46 RX0 yX0_depth wsX0_depth) := goodIn_app (goodIn_of _ (by decide +kernel)) ggX1_bringUp_X0_depth
set_option maxRecDepth 20000 in
theorem ggX1_bringUp_X0_isOnTheLeft : GoodIn wsX1_bringUp wsX0_isOnTheLeft := goodIn_r _ [12, 8, 13, 28, 29, 30, 31, 32, 33] (by decide +kernel) (by decide +kernel)
set_option maxRecDepth 20000 in
theorem gX1_bringUp_X0_isOnTheLeft : GoodIn wsX1_bringUp (wsV RX1 50 RX0 yX0_isOnTheLeft wsX0_isOnTheLeft) := goodIn_app (goodIn_of _ (by decide +kernel)) ggX1_bringUp_X0_isOnTheLeft
set_option maxRecDepth 20000 in
theorem ggX1_bringUp_X0_turn : GoodIn wsX1_bringUp wsX0_turn := goodIn_r _ [17, 8, 18, 13, 19, 10, 11, 6, 12, 20, 21, 22, 23, 24, 25, 26, 27, 28, 29, 30, 31, 32, 33] (by decide +kernel) (by decide +kernel)
set_option maxRecDepth 20000 in
theorem gX1_bringUp_X0_turn : GoodIn wsX1_bringUp (wsV RX1 54 RX0 yX0_turn wsX0_turn) := goodIn_app (goodIn_of _ (by decide +kernel)) ggX1_bringUp_X0_turn
theorem dX1_bringUp_0 : decode cX1_bringUp 0 = .ok (.aload_n 1, 1) := by decide +kernel
theorem dX1_bringUp_1 : decode cX1_bringUp 1 = .ok (.invokevirtual 46, 3) := by decide +kernel
theorem dX1_bringUp_4 : decode cX1_bringUp 4 = .ok (.istore_n 2, 1) := by decide +kernel
theorem dX1_bringUp_5 : decode cX1_bringUp 5 = .ok (.iload_n 2, 1) := by decide +kernel
theorem dX1_bringUp_6 : decode cX1_bringUp 6 = .ok (.istore_n 3, 1) := by decide +kernel
theorem dX1_bringUp_7 : decode cX1_bringUp 7 = .ok (.iload_n 3, 1) := by decide +kernel
theorem dX1_bringUp_8 : decode cX1_bringUp 8 = .ok (.ifCond .le 57, 3) := by decide +kernel
theorem dX1_bringUp_11 : decode cX1_bringUp 11 = .ok (.aload_n 1, 1) := by decide +kernel
theorem dX1_bringUp_12 : decode cX1_bringUp 12 = .ok (.getfield 13, 3) := by decide +kernel
theorem dX1_bringUp_15 : decode cX1_bringUp 15 = .ok (.astore 4, 2) := by decide +kernel
theorem dX1_bringUp_17 : decode cX1_bringUp 17 = .ok (.aload 4, 2) := by decide +kernel
theorem dX1_bringUp_19 : decode cX1_bringUp 19 = .ok (.ifnull 36, 3) := by decide +kernel
theorem dX1_bringUp_22 : decode cX1_bringUp 22 = .ok (.aload 4, 2) := by decide +kernel
theorem dX1_bringUp_24 : decode cX1_bringUp 24 = .ok (.getfield 13, 3) := by decide +kernel
theorem dX1_bringUp_27 : decode cX1_bringUp 27 = .ok (.ifnull 28, 3) := by decide +kernel
theorem dX1_bringUp_30 : decode cX1_bringUp 30 = .ok (.aload_n 1, 1) := by decide +kernel
theorem dX1_bringUp_31 : decode cX1_bringUp 31 = .ok (.invokevirtual 50, 3) := by decide +kernel
theorem dX1_bringUp_34 : decode cX1_bringUp 34 = .ok (.aload 4, 2) := by decide +kernel
theorem dX1_bringUp_36 : decode cX1_bringUp 36 = .ok (.invokevirtual 50, 3) := by decide +kernel
theorem dX1_bringUp_39 : decode cX1_bringUp 39 = .ok (.if_icmp .ne 8, 3) := by decide +kernel
theorem dX1_bringUp_42 : decode cX1_bringUp 42 = .ok (.aload 4, 2) := by decide +kernel
theorem dX1_bringUp_44 : decode cX1_bringUp 44 = .ok (.goto 4, 3) := by decide +kernel
theorem dX1_bringUp_47 : decode cX1_bringUp 47 = .ok (.aload_n 1, 1) := by decide +kernel
theorem dX1_bringUp_48 : decode cX1_bringUp 48 = .ok (.astore 5, 2) := by decide +kernel
theorem dX1_bringUp_50 : decode cX1_bringUp 50 = .ok (.aload 5, 2) := by decide +kernel
theorem dX1_bringUp_52 : decode cX1_bringUp 52 = .ok (.invokevirtual 54, 3) := by decide +kernel
theorem dX1_bringUp_55 : decode cX1_bringUp 55 = .ok (.aload_n 1, 1) := by decide +kernel
theorem dX1_bringUp_56 : decode cX1_bringUp 56 = .ok (.invokevirtual 54, 3) := by decide +kernel
theorem dX1_bringUp_59 : decode cX1_bringUp 59 = .ok (.iinc 3 (-2), 3) := by decide +kernel
theorem dX1_bringUp_62 : decode cX1_bringUp 62 = .ok (.goto (-55), 3) := by decide +kernel
theorem dX1_bringUp_65 : decode cX1_bringUp 65 = .ok (.aload_n 0, 1) := by decide +kernel
theorem dX1_bringUp_66 : decode cX1_bringUp 66 = .ok (.aload_n 1, 1) := by decide +kernel
theorem dX1_bringUp_67 : decode cX1_bringUp 67 = .ok (.putfield 7, 3) := by decide +kernel
theorem dX1_bringUp_70 : decode cX1_bringUp 70 = .ok (.iload_n 2, 1) := by decide +kernel
theorem dX1_bringUp_71 : decode cX1_bringUp 71 = .ok (.ireturn, 1) := by decide +kernel
set_option maxRecDepth 20000 in
theorem ggX1_at_X1_first : GoodIn wsX1_at wsX1_first := goodIn_r _ [5, 6, 7, 8, 9, 10, 11, 12, 20, 21, 22, 23, 24, 25, 26] (by decide +kernel) (by decide +kernel)
set_option maxRecDepth 20000 in
theorem gX1_at_X1_first : GoodIn wsX1_at (wsV RX1 57 RX1 yX1_first wsX1_first) := goodIn_app (goodIn_of _ (by decide +kernel)) ggX1_at_X1_first
set_option maxRecDepth 20000 in
theorem ggX1_at_X0_next : GoodIn wsX1_at wsX0_next := goodIn_r _ [16, 17, 18, 19, 8, 9, 10, 11, 12, 21, 22, 23, 24, 25, 26] (by decide +kernel) (by decide +kernel)
set_option maxRecDepth 20000 in
theorem gX1_at_X0_next : GoodIn wsX1_at (wsV RX1 60 RX0 yX0_next wsX0_next) := goodIn_app (goodIn_of _ (by decide +kernel)) ggX1_at_X0_next
theorem dX1_at_0 : decode cX1_at 0 = .ok (.iconst 0, 1) := by decide +kernel
theorem dX1_at_1 : decode cX1_at 1 = .ok (.istore_n 2, 1) := by decide +kernel
theorem dX1_at_2 : decode cX1_at 2 = .ok (.aload_n 0, 1) := by decide +kernel
theorem dX1_at_3 : decode cX1_at 3 = .ok (.invokevirtual 57, 3) := by decide +kernel
theorem dX1_at_6 : decode cX1_at 6 = .ok (.astore_n 3, 1) := by decide +kernel
theorem dX1_at_7 : decode cX1_at 7 = .ok (.aload_n 3, 1) := by decide +kernel
theorem dX1_at_8 : decode cX1_at 8 = .ok (.ifnull 21, 3) := by decide +kernel
theorem dX1_at_11 : decode cX1_at 11 = .ok (.iload_n 2, 1) := by decide +kernel
theorem dX1_at_12 : decode cX1_at 12 = .ok (.iload_n 1, 1) := by decide +kernel
theorem dX1_at_13 : decode cX1_at 13 = .ok (.if_icmp .ne 5, 3) := by decide +kernel
theorem dX1_at_16 : decode cX1_at 16 = .ok (.aload_n 3, 1) := by decide +kernel
theorem dX1_at_17 : decode cX1_at 17 = .ok (.areturn, 1) := by decide +kernel
theorem dX1_at_18 : decode cX1_at 18 = .ok (.iinc 2 1, 3) := by decide +kernel
theorem dX1_at_21 : decode cX1_at 21 = .ok (.aload_n 3, 1) := by decide +kernel
theorem dX1_at_22 : decode cX1_at 22 = .ok (.invokevirtual 60, 3) := by decide +kernel
theorem dX1_at_25 : decode cX1_at 25 = .ok (.astore_n 3, 1) := by decide +kernel
theorem dX1_at_26 : decode cX1_at 26 = .ok (.goto (-19), 3) := by decide +kernel
theorem dX1_at_29 : decode cX1_at 29 = .ok (.aconst_null, 1) := by decide +kernel
theorem dX1_at_30 : decode cX1_at 30 = .ok (.areturn, 1) := by decide +kernel
set_option maxRecDepth 20000 in
theorem ggX1_count_X0_countUnder : GoodIn wsX1_count wsX0_countUnder := goodIn_r _ [6, 7, 8, 9, 5, 10, 11, 12, 13, 14, 15, 16, 17, 18, 19, 20, 21, 23, 24, 25, 26, 27, 28] (by decide +kernel) (by decide +kernel)
set_option maxRecDepth 20000 in
theorem gX1_count_X0_countUnder : GoodIn wsX1_count (wsV RX1 63 RX0 yX0_countUnder wsX0_countUnder) := goodIn_app (goodIn_of _ (by decide +kernel)) ggX1_count_X0_countUnder
theorem dX1_count_0 : decode cX1_count 0 = .ok (.aload_n 0, 1) := by decide +kernel
theorem dX1_count_1 : decode cX1_count 1 = .ok (.getfield 7, 3) := by decide +kernel
theorem dX1_count_4 : decode cX1_count 4 = .ok (.ifnonnull 7, 3) := by decide +kernel
theorem dX1_count_7 : decode cX1_count 7 = .ok (.iconst 0, 1) := by decide +kernel
theorem dX1_count_8 : decode cX1_count 8 = .ok (.goto 12, 3) := by decide +kernel
theorem dX1_count_11 : decode cX1_count 11 = .ok (.aload_n 0, 1) := by decide +kernel
theorem dX1_count_12 : decode cX1_count 12 = .ok (.getfield 7, 3) := by decide +kernel
theorem dX1_count_15 : decode cX1_count 15 = .ok (.invokevirtual 63, 3) := by decide +kernel
theorem dX1_count_18 : decode cX1_count 18 = .ok (.iconst 1, 1) := by decide +kernel
theorem dX1_count_19 : decode cX1_count 19 = .ok (.iadd, 1) := by decide +kernel
theorem dX1_count_20 : decode cX1_count 20 = .ok (.ireturn, 1) := by decide +kernel
set_option maxRecDepth 20000 in
theorem ggX1_countBelow_X1_first : GoodIn wsX1_countBelow wsX1_first := goodIn_r _ [6, 7, 8, 9, 10, 11, 12, 13, 27, 21, 22, 23, 24, 25, 26] (by decide +kernel) (by decide +kernel)
set_option maxRecDepth 20000 in
theorem gX1_countBelow_X1_first : GoodIn wsX1_countBelow (wsV RX1 57 RX1 yX1_first wsX1_first) := goodIn_app (goodIn_of _ (by decide +kernel)) ggX1_countBelow_X1_first
set_option maxRecDepth 20000 in
theorem ggX1_countBelow_X0_next : GoodIn wsX1_countBelow wsX0_next := goodIn_r _ [17, 18, 19, 20, 9, 10, 11, 12, 13, 21, 22, 23, 24, 25, 26] (by decide +kernel) (by decide +kernel)
set_option maxRecDepth 20000 in
theorem gX1_countBelow_X0_next : GoodIn wsX1_countBelow (wsV RX1 60 RX0 yX0_next wsX0_next) := goodIn_app (goodIn_of _ (by decide +kernel)) ggX1_countBelow_X0_next
theorem dX1_countBelow_0 : decode cX1_countBelow 0 = .ok (.iconst 0, 1) := by decide +kernel
theorem dX1_countBelow_1 : decode cX1_countBelow 1 = .ok (.istore_n 2, 1) := by decide +kernel
theorem dX1_countBelow_2 : decode cX1_countBelow 2 = .ok (.aload_n 0, 1) := by decide +kernel
theorem dX1_countBelow_3 : decode cX1_countBelow 3 = .ok (.invokevirtual 57, 3) := by decide +kernel
theorem dX1_countBelow_6 : decode cX1_countBelow 6 = .ok (.astore_n 3, 1) := by decide +kernel
theorem dX1_countBelow_7 : decode cX1_countBelow 7 = .ok (.aload_n 3, 1) := by decide +kernel
theorem dX1_countBelow_8 : decode cX1_countBelow 8 = .ok (.ifnull 22, 3) := by decide +kernel
theorem dX1_countBelow_11 : decode cX1_countBelow 11 = .ok (.aload_n 3, 1) := by decide +kernel
theorem dX1_countBelow_12 : decode cX1_countBelow 12 = .ok (.getfield 32, 3) := by decide +kernel
theorem dX1_countBelow_15 : decode cX1_countBelow 15 = .ok (.iload_n 1, 1) := by decide +kernel
theorem dX1_countBelow_16 : decode cX1_countBelow 16 = .ok (.if_icmp .ge 14, 3) := by decide +kernel
theorem dX1_countBelow_19 : decode cX1_countBelow 19 = .ok (.iinc 2 1, 3) := by decide +kernel
theorem dX1_countBelow_22 : decode cX1_countBelow 22 = .ok (.aload_n 3, 1) := by decide +kernel
theorem dX1_countBelow_23 : decode cX1_countBelow 23 = .ok (.invokevirtual 60, 3) := by decide +kernel
theorem dX1_countBelow_26 : decode cX1_countBelow 26 = .ok (.astore_n 3, 1) := by decide +kernel
theorem dX1_countBelow_27 : decode cX1_countBelow 27 = .ok (.goto (-20), 3) := by decide +kernel
theorem dX1_countBelow_30 : decode cX1_countBelow 30 = .ok (.iload_n 2, 1) := by decide +kernel
theorem dX1_countBelow_31 : decode cX1_countBelow 31 = .ok (.ireturn, 1) := by decide +kernel
set_option maxRecDepth 20000 in
theorem ggX1_greatestBelow_X1_first : GoodIn wsX1_greatestBelow wsX1_first := goodIn_r _ [6, 7, 8, 9, 10, 11, 12, 13, 27, 21, 22, 23, 24, 25, 26] (by decide +kernel) (by decide +kernel)
set_option maxRecDepth 20000 in
theorem gX1_greatestBelow_X1_first : GoodIn wsX1_greatestBelow (wsV RX1 57 RX1 yX1_first wsX1_first) := goodIn_app (goodIn_of _ (by decide +kernel)) ggX1_greatestBelow_X1_first
set_option maxRecDepth 20000 in
theorem ggX1_greatestBelow_X0_next : GoodIn wsX1_greatestBelow wsX0_next := goodIn_r _ [17, 18, 19, 20, 9, 10, 11, 12, 13, 21, 22, 23, 24, 25, 26] (by decide +kernel) (by decide +kernel)
set_option maxRecDepth 20000 in
theorem gX1_greatestBelow_X0_next : GoodIn wsX1_greatestBelow (wsV RX1 60 RX0 yX0_next wsX0_next) := goodIn_app (goodIn_of _ (by decide +kernel)) ggX1_greatestBelow_X0_next
theorem dX1_greatestBelow_0 : decode cX1_greatestBelow 0 = .ok (.aconst_null, 1) := by decide +kernel
theorem dX1_greatestBelow_1 : decode cX1_greatestBelow 1 = .ok (.astore_n 2, 1) := by decide +kernel
theorem dX1_greatestBelow_2 : decode cX1_greatestBelow 2 = .ok (.aload_n 0, 1) := by decide +kernel
theorem dX1_greatestBelow_3 : decode cX1_greatestBelow 3 = .ok (.invokevirtual 57, 3) := by decide +kernel
theorem dX1_greatestBelow_6 : decode cX1_greatestBelow 6 = .ok (.astore_n 3, 1) := by decide +kernel
theorem dX1_greatestBelow_7 : decode cX1_greatestBelow 7 = .ok (.aload_n 3, 1) := by decide +kernel
theorem dX1_greatestBelow_8 : decode cX1_greatestBelow 8 = .ok (.ifnull 21, 3) := by decide +kernel
theorem dX1_greatestBelow_11 : decode cX1_greatestBelow 11 = .ok (.aload_n 3, 1) := by decide +kernel
theorem dX1_greatestBelow_12 : decode cX1_greatestBelow 12 = .ok (.getfield 32, 3) := by decide +kernel
theorem dX1_greatestBelow_15 : decode cX1_greatestBelow 15 = .ok (.iload_n 1, 1) := by decide +kernel
theorem dX1_greatestBelow_16 : decode cX1_greatestBelow 16 = .ok (.if_icmp .ge 13, 3) := by decide +kernel
theorem dX1_greatestBelow_19 : decode cX1_greatestBelow 19 = .ok (.aload_n 3, 1) := by decide +kernel
theorem dX1_greatestBelow_20 : decode cX1_greatestBelow 20 = .ok (.astore_n 2, 1) := by decide +kernel
theorem dX1_greatestBelow_21 : decode cX1_greatestBelow 21 = .ok (.aload_n 3, 1) := by decide +kernel
theorem dX1_greatestBelow_22 : decode cX1_greatestBelow 22 = .ok (.invokevirtual 60, 3) := by decide +kernel
theorem dX1_greatestBelow_25 : decode cX1_greatestBelow 25 = .ok (.astore_n 3, 1) := by decide +kernel
theorem dX1_greatestBelow_26 : decode cX1_greatestBelow 26 = .ok (.goto (-19), 3) := by decide +kernel
theorem dX1_greatestBelow_29 : decode cX1_greatestBelow 29 = .ok (.aload_n 2, 1) := by decide +kernel
theorem dX1_greatestBelow_30 : decode cX1_greatestBelow 30 = .ok (.areturn, 1) := by decide +kernel
set_option maxRecDepth 20000 in
theorem ggX1_levels_X1_first : GoodIn wsX1_levels wsX1_first := goodIn_r _ [9, 10, 11, 12, 13, 14, 15, 16, 28, 29, 30, 31, 32, 33, 34] (by decide +kernel) (by decide +kernel)
set_option maxRecDepth 20000 in
theorem gX1_levels_X1_first : GoodIn wsX1_levels (wsV RX1 57 RX1 yX1_first wsX1_first) := goodIn_app (goodIn_of _ (by decide +kernel)) ggX1_levels_X1_first
set_option maxRecDepth 20000 in
theorem ggX1_levels_X0_depth : GoodIn wsX1_levels wsX0_depth := goodIn_r _ [20, 21, 29, 30, 31, 32, 33, 34] (by decide +kernel) (by decide +kernel)
set_option maxRecDepth 20000 in
theorem gX1_levels_X0_depth : GoodIn wsX1_levels (wsV RX1 46 RX0 yX0_depth wsX0_depth) := goodIn_app (goodIn_of _ (by decide +kernel)) ggX1_levels_X0_depth
set_option maxRecDepth 20000 in
theorem ggX1_levels_X0_next : GoodIn wsX1_levels wsX0_next := goodIn_r _ [25, 26, 21, 27, 12, 13, 14, 15, 16, 29, 30, 31, 32, 33, 34] (by decide +kernel) (by decide +kernel)
set_option maxRecDepth 20000 in
theorem gX1_levels_X0_next : GoodIn wsX1_levels (wsV RX1 60 RX0 yX0_next wsX0_next) := goodIn_app (goodIn_of _ (by decide +kernel)) ggX1_levels_X0_next
theorem dX1_levels_0 : decode cX1_levels 0 = .ok (.iconst 0, 1) := by decide +kernel
theorem dX1_levels_1 : decode cX1_levels 1 = .ok (.istore_n 1, 1) := by decide +kernel
theorem dX1_levels_2 : decode cX1_levels 2 = .ok (.aload_n 0, 1) := by decide +kernel
theorem dX1_levels_3 : decode cX1_levels 3 = .ok (.invokevirtual 57, 3) := by decide +kernel
theorem dX1_levels_6 : decode cX1_levels 6 = .ok (.astore_n 2, 1) := by decide +kernel
theorem dX1_levels_7 : decode cX1_levels 7 = .ok (.aload_n 2, 1) := by decide +kernel
theorem dX1_levels_8 : decode cX1_levels 8 = .ok (.ifnull 22, 3) := by decide +kernel
theorem dX1_levels_11 : decode cX1_levels 11 = .ok (.iload_n 1, 1) := by decide +kernel
theorem dX1_levels_12 : decode cX1_levels 12 = .ok (.aload_n 2, 1) := by decide +kernel
theorem dX1_levels_13 : decode cX1_levels 13 = .ok (.invokevirtual 46, 3) := by decide +kernel
theorem dX1_levels_16 : decode cX1_levels 16 = .ok (.iconst 1, 1) := by decide +kernel
theorem dX1_levels_17 : decode cX1_levels 17 = .ok (.iadd, 1) := by decide +kernel
theorem dX1_levels_18 : decode cX1_levels 18 = .ok (.invokestatic 66, 3) := by decide +kernel
theorem dX1_levels_21 : decode cX1_levels 21 = .ok (.istore_n 1, 1) := by decide +kernel
theorem dX1_levels_22 : decode cX1_levels 22 = .ok (.aload_n 2, 1) := by decide +kernel
theorem dX1_levels_23 : decode cX1_levels 23 = .ok (.invokevirtual 60, 3) := by decide +kernel
theorem dX1_levels_26 : decode cX1_levels 26 = .ok (.astore_n 2, 1) := by decide +kernel
theorem dX1_levels_27 : decode cX1_levels 27 = .ok (.goto (-20), 3) := by decide +kernel
theorem dX1_levels_30 : decode cX1_levels 30 = .ok (.iload_n 1, 1) := by decide +kernel
theorem dX1_levels_31 : decode cX1_levels 31 = .ok (.ireturn, 1) := by decide +kernel
set_option maxRecDepth 20000 in
theorem ggX1_depthSum_X1_first : GoodIn wsX1_depthSum wsX1_first := goodIn_r _ [5, 6, 7, 8, 9, 10, 11, 12, 24, 25, 26, 27, 28, 29, 30] (by decide +kernel) (by decide +kernel)
set_option maxRecDepth 20000 in
theorem gX1_depthSum_X1_first : GoodIn wsX1_depthSum (wsV RX1 57 RX1 yX1_first wsX1_first) := goodIn_app (goodIn_of _ (by decide +kernel)) ggX1_depthSum_X1_first
set_option maxRecDepth 20000 in
theorem ggX1_depthSum_X0_depth : GoodIn wsX1_depthSum wsX0_depth := goodIn_r _ [16, 17, 25, 26, 27, 28, 29, 30] (by decide +kernel) (by decide +kernel)
set_option maxRecDepth 20000 in
theorem gX1_depthSum_X0_depth : GoodIn wsX1_depthSum (wsV RX1 46 RX0 yX0_depth wsX0_depth) := goodIn_app (goodIn_of _ (by decide +kernel)) ggX1_depthSum_X0_depth
set_option maxRecDepth 20000 in
theorem ggX1_depthSum_X0_next : GoodIn wsX1_depthSum wsX0_next := goodIn_r _ [21, 22, 17, 23, 8, 9, 10, 11, 12, 25, 26, 27, 28, 29, 30] (by decide +kernel) (by decide +kernel)
set_option maxRecDepth 20000 in
theorem gX1_depthSum_X0_next : GoodIn wsX1_depthSum (wsV RX1 60 RX0 yX0_next wsX0_next) := goodIn_app (goodIn_of _ (by decide +kernel)) ggX1_depthSum_X0_next
theorem dX1_depthSum_0 : decode cX1_depthSum 0 = .ok (.iconst 0, 1) := by decide +kernel
theorem dX1_depthSum_1 : decode cX1_depthSum 1 = .ok (.istore_n 1, 1) := by decide +kernel
theorem dX1_depthSum_2 : decode cX1_depthSum 2 = .ok (.aload_n 0, 1) := by decide +kernel
theorem dX1_depthSum_3 : decode cX1_depthSum 3 = .ok (.invokevirtual 57, 3) := by decide +kernel
theorem dX1_depthSum_6 : decode cX1_depthSum 6 = .ok (.astore_n 2, 1) := by decide +kernel
theorem dX1_depthSum_7 : decode cX1_depthSum 7 = .ok (.aload_n 2, 1) := by decide +kernel
theorem dX1_depthSum_8 : decode cX1_depthSum 8 = .ok (.ifnull 18, 3) := by decide +kernel
theorem dX1_depthSum_11 : decode cX1_depthSum 11 = .ok (.iload_n 1, 1) := by decide +kernel
theorem dX1_depthSum_12 : decode cX1_depthSum 12 = .ok (.aload_n 2, 1) := by decide +kernel
theorem dX1_depthSum_13 : decode cX1_depthSum 13 = .ok (.invokevirtual 46, 3) := by decide +kernel
theorem dX1_depthSum_16 : decode cX1_depthSum 16 = .ok (.iadd, 1) := by decide +kernel
theorem dX1_depthSum_17 : decode cX1_depthSum 17 = .ok (.istore_n 1, 1) := by decide +kernel
theorem dX1_depthSum_18 : decode cX1_depthSum 18 = .ok (.aload_n 2, 1) := by decide +kernel
theorem dX1_depthSum_19 : decode cX1_depthSum 19 = .ok (.invokevirtual 60, 3) := by decide +kernel
theorem dX1_depthSum_22 : decode cX1_depthSum 22 = .ok (.astore_n 2, 1) := by decide +kernel
theorem dX1_depthSum_23 : decode cX1_depthSum 23 = .ok (.goto (-16), 3) := by decide +kernel
theorem dX1_depthSum_26 : decode cX1_depthSum 26 = .ok (.iload_n 1, 1) := by decide +kernel
theorem dX1_depthSum_27 : decode cX1_depthSum 27 = .ok (.ireturn, 1) := by decide +kernel
set_option maxRecDepth 20000 in
theorem ggX1_leafCount_X1_first : GoodIn wsX1_leafCount wsX1_first := goodIn_r _ [7, 8, 9, 10, 11, 12, 13, 14, 28, 22, 23, 24, 25, 26, 27] (by decide +kernel) (by decide +kernel)
set_option maxRecDepth 20000 in
theorem gX1_leafCount_X1_first : GoodIn wsX1_leafCount (wsV RX1 57 RX1 yX1_first wsX1_first) := goodIn_app (goodIn_of _ (by decide +kernel)) ggX1_leafCount_X1_first
set_option maxRecDepth 20000 in
theorem ggX1_leafCount_X0_next : GoodIn wsX1_leafCount wsX0_next := goodIn_r _ [18, 19, 20, 21, 10, 11, 12, 13, 14, 22, 23, 24, 25, 26, 27] (by decide +kernel) (by decide +kernel)
set_option maxRecDepth 20000 in
theorem gX1_leafCount_X0_next : GoodIn wsX1_leafCount (wsV RX1 60 RX0 yX0_next wsX0_next) := goodIn_app (goodIn_of _ (by decide +kernel)) ggX1_leafCount_X0_next
theorem dX1_leafCount_0 : decode cX1_leafCount 0 = .ok (.iconst 0, 1) := by decide +kernel
theorem dX1_leafCount_1 : decode cX1_leafCount 1 = .ok (.istore_n 1, 1) := by decide +kernel
theorem dX1_leafCount_2 : decode cX1_leafCount 2 = .ok (.aload_n 0, 1) := by decide +kernel
theorem dX1_leafCount_3 : decode cX1_leafCount 3 = .ok (.invokevirtual 57, 3) := by decide +kernel
theorem dX1_leafCount_6 : decode cX1_leafCount 6 = .ok (.astore_n 2, 1) := by decide +kernel
theorem dX1_leafCount_7 : decode cX1_leafCount 7 = .ok (.aload_n 2, 1) := by decide +kernel
theorem dX1_leafCount_8 : decode cX1_leafCount 8 = .ok (.ifnull 28, 3) := by decide +kernel
theorem dX1_leafCount_11 : decode cX1_leafCount 11 = .ok (.aload_n 2, 1) := by decide +kernel
theorem dX1_leafCount_12 : decode cX1_leafCount 12 = .ok (.getfield 72, 3) := by decide +kernel
theorem dX1_leafCount_15 : decode cX1_leafCount 15 = .ok (.ifnonnull 13, 3) := by decide +kernel
theorem dX1_leafCount_18 : decode cX1_leafCount 18 = .ok (.aload_n 2, 1) := by decide +kernel
theorem dX1_leafCount_19 : decode cX1_leafCount 19 = .ok (.getfield 75, 3) := by decide +kernel
theorem dX1_leafCount_22 : decode cX1_leafCount 22 = .ok (.ifnonnull 6, 3) := by decide +kernel
theorem dX1_leafCount_25 : decode cX1_leafCount 25 = .ok (.iinc 1 1, 3) := by decide +kernel
theorem dX1_leafCount_28 : decode cX1_leafCount 28 = .ok (.aload_n 2, 1) := by decide +kernel
theorem dX1_leafCount_29 : decode cX1_leafCount 29 = .ok (.invokevirtual 60, 3) := by decide +kernel
theorem dX1_leafCount_32 : decode cX1_leafCount 32 = .ok (.astore_n 2, 1) := by decide +kernel
theorem dX1_leafCount_33 : decode cX1_leafCount 33 = .ok (.goto (-26), 3) := by decide +kernel
theorem dX1_leafCount_36 : decode cX1_leafCount 36 = .ok (.iload_n 1, 1) := by decide +kernel
theorem dX1_leafCount_37 : decode cX1_leafCount 37 = .ok (.ireturn, 1) := by decide +kernel
set_option maxRecDepth 20000 in
theorem ggX1_mostBitten_X1_first : GoodIn wsX1_mostBitten wsX1_first := goodIn_r _ [6, 7, 8, 9, 10, 11, 12, 13, 27, 21, 22, 23, 24, 25, 26] (by decide +kernel) (by decide +kernel)
set_option maxRecDepth 20000 in
theorem gX1_mostBitten_X1_first : GoodIn wsX1_mostBitten (wsV RX1 57 RX1 yX1_first wsX1_first) := goodIn_app (goodIn_of _ (by decide +kernel)) ggX1_mostBitten_X1_first
set_option maxRecDepth 20000 in
theorem ggX1_mostBitten_X0_next : GoodIn wsX1_mostBitten wsX0_next := goodIn_r _ [17, 18, 19, 20, 9, 10, 11, 12, 13, 21, 22, 23, 24, 25, 26] (by decide +kernel) (by decide +kernel)
set_option maxRecDepth 20000 in
theorem gX1_mostBitten_X0_next : GoodIn wsX1_mostBitten (wsV RX1 60 RX0 yX0_next wsX0_next) := goodIn_app (goodIn_of _ (by decide +kernel)) ggX1_mostBitten_X0_next
theorem dX1_mostBitten_0 : decode cX1_mostBitten 0 = .ok (.aconst_null, 1) := by decide +kernel
theorem dX1_mostBitten_1 : decode cX1_mostBitten 1 = .ok (.astore_n 1, 1) := by decide +kernel
theorem dX1_mostBitten_2 : decode cX1_mostBitten 2 = .ok (.aload_n 0, 1) := by decide +kernel
theorem dX1_mostBitten_3 : decode cX1_mostBitten 3 = .ok (.invokevirtual 57, 3) := by decide +kernel
theorem dX1_mostBitten_6 : decode cX1_mostBitten 6 = .ok (.astore_n 2, 1) := by decide +kernel
theorem dX1_mostBitten_7 : decode cX1_mostBitten 7 = .ok (.aload_n 2, 1) := by decide +kernel
theorem dX1_mostBitten_8 : decode cX1_mostBitten 8 = .ok (.ifnull 28, 3) := by decide +kernel
theorem dX1_mostBitten_11 : decode cX1_mostBitten 11 = .ok (.aload_n 1, 1) := by decide +kernel
theorem dX1_mostBitten_12 : decode cX1_mostBitten 12 = .ok (.ifnull 14, 3) := by decide +kernel
theorem dX1_mostBitten_15 : decode cX1_mostBitten 15 = .ok (.aload_n 2, 1) := by decide +kernel
theorem dX1_mostBitten_16 : decode cX1_mostBitten 16 = .ok (.getfield 78, 3) := by decide +kernel
theorem dX1_mostBitten_19 : decode cX1_mostBitten 19 = .ok (.aload_n 1, 1) := by decide +kernel
theorem dX1_mostBitten_20 : decode cX1_mostBitten 20 = .ok (.getfield 78, 3) := by decide +kernel
theorem dX1_mostBitten_23 : decode cX1_mostBitten 23 = .ok (.if_icmp .le 5, 3) := by decide +kernel
theorem dX1_mostBitten_26 : decode cX1_mostBitten 26 = .ok (.aload_n 2, 1) := by decide +kernel
theorem dX1_mostBitten_27 : decode cX1_mostBitten 27 = .ok (.astore_n 1, 1) := by decide +kernel
theorem dX1_mostBitten_28 : decode cX1_mostBitten 28 = .ok (.aload_n 2, 1) := by decide +kernel
theorem dX1_mostBitten_29 : decode cX1_mostBitten 29 = .ok (.invokevirtual 60, 3) := by decide +kernel
theorem dX1_mostBitten_32 : decode cX1_mostBitten 32 = .ok (.astore_n 2, 1) := by decide +kernel
theorem dX1_mostBitten_33 : decode cX1_mostBitten 33 = .ok (.goto (-26), 3) := by decide +kernel
theorem dX1_mostBitten_36 : decode cX1_mostBitten 36 = .ok (.aload_n 1, 1) := by decide +kernel
theorem dX1_mostBitten_37 : decode cX1_mostBitten 37 = .ok (.areturn, 1) := by decide +kernel
set_option maxRecDepth 20000 in
theorem ggX1_meeting_X0_towards : GoodIn wsX1_meeting wsX0_towards := goodIn_r _ [14, 15, 16, 17, 18, 19, 20, 21, 22, 23] (by decide +kernel) (by decide +kernel)
set_option maxRecDepth 20000 in
theorem gX1_meeting_X0_towards : GoodIn wsX1_meeting (wsV RX1 25 RX0 yX0_towards wsX0_towards) := goodIn_app (goodIn_of _ (by decide +kernel)) ggX1_meeting_X0_towards
theorem dX1_meeting_0 : decode cX1_meeting 0 = .ok (.aload_n 1, 1) := by decide +kernel
theorem dX1_meeting_1 : decode cX1_meeting 1 = .ok (.getfield 32, 3) := by decide +kernel
theorem dX1_meeting_4 : decode cX1_meeting 4 = .ok (.aload_n 2, 1) := by decide +kernel
theorem dX1_meeting_5 : decode cX1_meeting 5 = .ok (.getfield 32, 3) := by decide +kernel
theorem dX1_meeting_8 : decode cX1_meeting 8 = .ok (.invokestatic 81, 3) := by decide +kernel
theorem dX1_meeting_11 : decode cX1_meeting 11 = .ok (.istore_n 3, 1) := by decide +kernel
theorem dX1_meeting_12 : decode cX1_meeting 12 = .ok (.aload_n 1, 1) := by decide +kernel
theorem dX1_meeting_13 : decode cX1_meeting 13 = .ok (.getfield 32, 3) := by decide +kernel
theorem dX1_meeting_16 : decode cX1_meeting 16 = .ok (.aload_n 2, 1) := by decide +kernel
theorem dX1_meeting_17 : decode cX1_meeting 17 = .ok (.getfield 32, 3) := by decide +kernel
theorem dX1_meeting_20 : decode cX1_meeting 20 = .ok (.invokestatic 66, 3) := by decide +kernel
theorem dX1_meeting_23 : decode cX1_meeting 23 = .ok (.istore 4, 2) := by decide +kernel
theorem dX1_meeting_25 : decode cX1_meeting 25 = .ok (.aload_n 0, 1) := by decide +kernel
theorem dX1_meeting_26 : decode cX1_meeting 26 = .ok (.getfield 7, 3) := by decide +kernel
theorem dX1_meeting_29 : decode cX1_meeting 29 = .ok (.astore 5, 2) := by decide +kernel
theorem dX1_meeting_31 : decode cX1_meeting 31 = .ok (.aload 5, 2) := by decide +kernel
theorem dX1_meeting_33 : decode cX1_meeting 33 = .ok (.ifnull 36, 3) := by decide +kernel
theorem dX1_meeting_36 : decode cX1_meeting 36 = .ok (.aload 5, 2) := by decide +kernel
theorem dX1_meeting_38 : decode cX1_meeting 38 = .ok (.getfield 32, 3) := by decide +kernel
theorem dX1_meeting_41 : decode cX1_meeting 41 = .ok (.iload_n 3, 1) := by decide +kernel
theorem dX1_meeting_42 : decode cX1_meeting 42 = .ok (.if_icmp .lt 16, 3) := by decide +kernel
theorem dX1_meeting_45 : decode cX1_meeting 45 = .ok (.aload 5, 2) := by decide +kernel
theorem dX1_meeting_47 : decode cX1_meeting 47 = .ok (.getfield 32, 3) := by decide +kernel
theorem dX1_meeting_50 : decode cX1_meeting 50 = .ok (.iload 4, 2) := by decide +kernel
theorem dX1_meeting_52 : decode cX1_meeting 52 = .ok (.if_icmp .gt 6, 3) := by decide +kernel
theorem dX1_meeting_55 : decode cX1_meeting 55 = .ok (.aload 5, 2) := by decide +kernel
theorem dX1_meeting_57 : decode cX1_meeting 57 = .ok (.areturn, 1) := by decide +kernel
theorem dX1_meeting_58 : decode cX1_meeting 58 = .ok (.aload 5, 2) := by decide +kernel
theorem dX1_meeting_60 : decode cX1_meeting 60 = .ok (.iload_n 3, 1) := by decide +kernel
theorem dX1_meeting_61 : decode cX1_meeting 61 = .ok (.invokevirtual 25, 3) := by decide +kernel
theorem dX1_meeting_64 : decode cX1_meeting 64 = .ok (.astore 5, 2) := by decide +kernel
theorem dX1_meeting_66 : decode cX1_meeting 66 = .ok (.goto (-35), 3) := by decide +kernel
theorem dX1_meeting_69 : decode cX1_meeting 69 = .ok (.aconst_null, 1) := by decide +kernel
theorem dX1_meeting_70 : decode cX1_meeting 70 = .ok (.areturn, 1) := by decide +kernel
set_option maxRecDepth 20000 in
theorem ggX1_standInFor_X1_first : GoodIn wsX1_standInFor wsX1_first := goodIn_r _ [6, 1, 7, 8, 9, 10, 11, 12, 29, 30, 31, 32, 33, 34, 35] (by decide +kernel) (by decide +kernel)
set_option maxRecDepth 20000 in
theorem gX1_standInFor_X1_first : GoodIn wsX1_standInFor (wsV RX1 57 RX1 yX1_first wsX1_first) := goodIn_app (goodIn_of _ (by decide +kernel)) ggX1_standInFor_X1_first
set_option maxRecDepth 20000 in
theorem ggX1_standInFor_X0_linkStandIn : GoodIn wsX1_standInFor wsX0_linkStandIn := goodIn_r _ [16, 17, 18, 12, 19, 20, 21, 10, 22, 30, 31, 32, 33, 34, 35] (by decide +kernel) (by decide +kernel)
set_option maxRecDepth 20000 in
theorem gX1_standInFor_X0_linkStandIn : GoodIn wsX1_standInFor (wsV RX1 84 RX0 yX0_linkStandIn wsX0_linkStandIn) := goodIn_app (goodIn_of _ (by decide +kernel)) ggX1_standInFor_X0_linkStandIn
set_option maxRecDepth 20000 in
theorem ggX1_standInFor_X0_next : GoodIn wsX1_standInFor wsX0_next := goodIn_r _ [26, 19, 18, 27, 8, 9, 10, 11, 12, 30, 31, 32, 33, 34, 35] (by decide +kernel) (by decide +kernel)
set_option maxRecDepth 20000 in
theorem gX1_standInFor_X0_next : GoodIn wsX1_standInFor (wsV RX1 60 RX0 yX0_next wsX0_next) := goodIn_app (goodIn_of _ (by decide +kernel)) ggX1_standInFor_X0_next
set_option maxRecDepth 20000 in
theorem ggX1_standInFor_X0_standInOf : GoodIn wsX1_standInFor wsX0_standInOf := goodIn_r _ [22, 17, 30, 31, 32, 33, 34, 35] (by decide +kernel) (by decide +kernel)
set_option maxRecDepth 20000 in
theorem gX1_standInFor_X0_standInOf : GoodIn wsX1_standInFor (va_wsS RX1 87 yX0_standInOf wsX0_standInOf) := goodIn_app (goodIn_of _ (by decide +kernel)) ggX1_standInFor_X0_standInOf
theorem dX1_standInFor_0 : decode cX1_standInFor 0 = .ok (.aload_n 1, 1) := by decide +kernel
theorem dX1_standInFor_1 : decode cX1_standInFor 1 = .ok (.invokevirtual 57, 3) := by decide +kernel
theorem dX1_standInFor_4 : decode cX1_standInFor 4 = .ok (.astore_n 2, 1) := by decide +kernel
theorem dX1_standInFor_5 : decode cX1_standInFor 5 = .ok (.aload_n 2, 1) := by decide +kernel
theorem dX1_standInFor_6 : decode cX1_standInFor 6 = .ok (.ifnull 15, 3) := by decide +kernel
theorem dX1_standInFor_9 : decode cX1_standInFor 9 = .ok (.aload_n 2, 1) := by decide +kernel
theorem dX1_standInFor_10 : decode cX1_standInFor 10 = .ok (.invokevirtual 84, 3) := by decide +kernel
theorem dX1_standInFor_13 : decode cX1_standInFor 13 = .ok (.aload_n 2, 1) := by decide +kernel
theorem dX1_standInFor_14 : decode cX1_standInFor 14 = .ok (.invokevirtual 60, 3) := by decide +kernel
theorem dX1_standInFor_17 : decode cX1_standInFor 17 = .ok (.astore_n 2, 1) := by decide +kernel
theorem dX1_standInFor_18 : decode cX1_standInFor 18 = .ok (.goto (-13), 3) := by decide +kernel
theorem dX1_standInFor_21 : decode cX1_standInFor 21 = .ok (.aload_n 0, 1) := by decide +kernel
theorem dX1_standInFor_22 : decode cX1_standInFor 22 = .ok (.aload_n 1, 1) := by decide +kernel
theorem dX1_standInFor_23 : decode cX1_standInFor 23 = .ok (.getfield 7, 3) := by decide +kernel
theorem dX1_standInFor_26 : decode cX1_standInFor 26 = .ok (.invokestatic 87, 3) := by decide +kernel
theorem dX1_standInFor_29 : decode cX1_standInFor 29 = .ok (.putfield 7, 3) := by decide +kernel
theorem dX1_standInFor_32 : decode cX1_standInFor 32 = .ok (.return_, 1) := by decide +kernel
