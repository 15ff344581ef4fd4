theorem dX4_init_0 : decode cX4_init 0 = .ok (.aload_n 0, 1) := by decide +kernel
theorem dX4_init_1 : decode cX4_init 1 = .ok (.invokespecial 1, 3) := by decide +kernel
theorem dX4_init_4 : decode cX4_init 4 = .ok (.aload_n 0, 1) := by decide +kernel
theorem dX4_init_5 : decode cX4_init 5 = .ok (.new 7, 3) := by decide +kernel
theorem dX4_init_8 : decode cX4_init 8 = .ok (.dup, 1) := by decide +kernel
theorem dX4_init_9 : decode cX4_init 9 = .ok (.invokespecial 9, 3) := by decide +kernel
theorem dX4_init_12 : decode cX4_init 12 = .ok (.putfield 10, 3) := by decide +kernel
theorem dX4_init_15 : decode cX4_init 15 = .ok (.aload_n 0, 1) := by decide +kernel
theorem dX4_init_16 : decode cX4_init 16 = .ok (.new 7, 3) := by decide +kernel
theorem dX4_init_19 : decode cX4_init 19 = .ok (.dup, 1) := by decide +kernel
theorem dX4_init_20 : decode cX4_init 20 = .ok (.invokespecial 9, 3) := by decide +kernel
theorem dX4_init_23 : decode cX4_init 23 = .ok (.putfield 16, 3) := by decide +kernel
theorem dX4_init_26 : decode cX4_init 26 = .ok (.aload_n 0, 1) := by decide +kernel
theorem dX4_init_27 : decode cX4_init 27 = .ok (.new 19, 3) := by decide +kernel
theorem dX4_init_30 : decode cX4_init 30 = .ok (.dup, 1) := by decide +kernel
theorem dX4_init_31 : decode cX4_init 31 = .ok (.invokespecial 21, 3) := by decide +kernel
theorem dX4_init_34 : decode cX4_init 34 = .ok (.putfield 22, 3) := by decide +kernel
theorem dX4_init_37 : decode cX4_init 37 = .ok (.aload_n 0, 1) := by decide +kernel
theorem dX4_init_38 : decode cX4_init 38 = .ok (.new 26, 3) := by decide +kernel
theorem dX4_init_41 : decode cX4_init 41 = .ok (.dup, 1) := by decide +kernel
theorem dX4_init_42 : decode cX4_init 42 = .ok (.invokespecial 28, 3) := by decide +kernel
theorem dX4_init_45 : decode cX4_init 45 = .ok (.putfield 29, 3) := by decide +kernel
theorem dX4_init_48 : decode cX4_init 48 = .ok (.aload_n 0, 1) := by decide +kernel
theorem dX4_init_49 : decode cX4_init 49 = .ok (.new 33, 3) := by decide +kernel
theorem dX4_init_52 : decode cX4_init 52 = .ok (.dup, 1) := by decide +kernel
theorem dX4_init_53 : decode cX4_init 53 = .ok (.invokespecial 35, 3) := by decide +kernel
theorem dX4_init_56 : decode cX4_init 56 = .ok (.putfield 36, 3) := by decide +kernel
theorem dX4_init_59 : decode cX4_init 59 = .ok (.aload_n 0, 1) := by decide +kernel
theorem dX4_init_60 : decode cX4_init 60 = .ok (.iconst 0, 1) := by decide +kernel
theorem dX4_init_61 : decode cX4_init 61 = .ok (.putfield 40, 3) := by decide +kernel
theorem dX4_init_64 : decode cX4_init 64 = .ok (.return_, 1) := by decide +kernel
set_option maxRecDepth 20000 in
theorem ggX4_newSet_X2_push : GoodIn wsX4_newSet wsX2_push := goodIn_r _ [8, 9, 10, 11, 12, 13, 7, 14, 15, 16, 17, 18, 19, 20, 21, 22, 23, 24, 25, 26, 27, 28, 29, 30, 31, 32, 33, 34, 35, 36, 37, 65, 66, 63, 64, 67, 68, 69, 70, 71, 72, 73] (by decide +kernel) (by decide +kernel)
set_option maxRecDepth 20000 in
theorem gX4_newSet_X2_push : GoodIn wsX4_newSet (wsV RX4 48 RX2 yX2_push wsX2_push) := goodIn_app (goodIn_of _ (by decide +kernel)) ggX4_newSet_X2_push
set_option maxRecDepth 20000 in
theorem ggX4_newSet_X1_open : GoodIn wsX4_newSet wsX1_open := goodIn_r _ [41, 20, 21, 42, 43, 44, 25, 45, 35, 36, 37, 46, 47, 48, 49, 27, 32, 33, 34, 50, 51, 52, 53, 54, 55, 56, 63, 64, 67, 68, 69, 70, 71, 72, 73] (by decide +kernel) (by decide +kernel)
set_option maxRecDepth 20000 in
theorem gX4_newSet_X1_open : GoodIn wsX4_newSet (wsV RX4 52 RX1 yX1_open wsX1_open) := goodIn_app (goodIn_of _ (by decide +kernel)) ggX4_newSet_X1_open
theorem dX4_newSet_0 : decode cX4_newSet 0 = .ok (.iload_n 1, 1) := by decide +kernel
theorem dX4_newSet_1 : decode cX4_newSet 1 = .ok (.ifCond .lt 10, 3) := by decide +kernel
theorem dX4_newSet_4 : decode cX4_newSet 4 = .ok (.iload_n 1, 1) := by decide +kernel
theorem dX4_newSet_5 : decode cX4_newSet 5 = .ok (.sipush 9999, 3) := by decide +kernel
theorem dX4_newSet_8 : decode cX4_newSet 8 = .ok (.if_icmp .le 6, 3) := by decide +kernel
theorem dX4_newSet_11 : decode cX4_newSet 11 = .ok (.bipush (-2), 2) := by decide +kernel
theorem dX4_newSet_13 : decode cX4_newSet 13 = .ok (.ireturn, 1) := by decide +kernel
theorem dX4_newSet_14 : decode cX4_newSet 14 = .ok (.aload_n 0, 1) := by decide +kernel
theorem dX4_newSet_15 : decode cX4_newSet 15 = .ok (.getfield 10, 3) := by decide +kernel
theorem dX4_newSet_18 : decode cX4_newSet 18 = .ok (.getfield 44, 3) := by decide +kernel
theorem dX4_newSet_21 : decode cX4_newSet 21 = .ok (.bipush 6, 2) := by decide +kernel
theorem dX4_newSet_23 : decode cX4_newSet 23 = .ok (.if_icmp .lt 6, 3) := by decide +kernel
theorem dX4_newSet_26 : decode cX4_newSet 26 = .ok (.bipush (-3), 2) := by decide +kernel
theorem dX4_newSet_28 : decode cX4_newSet 28 = .ok (.ireturn, 1) := by decide +kernel
theorem dX4_newSet_29 : decode cX4_newSet 29 = .ok (.aload_n 0, 1) := by decide +kernel
theorem dX4_newSet_30 : decode cX4_newSet 30 = .ok (.getfield 22, 3) := by decide +kernel
theorem dX4_newSet_33 : decode cX4_newSet 33 = .ok (.aload_n 0, 1) := by decide +kernel
theorem dX4_newSet_34 : decode cX4_newSet 34 = .ok (.getfield 10, 3) := by decide +kernel
theorem dX4_newSet_37 : decode cX4_newSet 37 = .ok (.invokevirtual 48, 3) := by decide +kernel
theorem dX4_newSet_40 : decode cX4_newSet 40 = .ok (.aload_n 0, 1) := by decide +kernel
theorem dX4_newSet_41 : decode cX4_newSet 41 = .ok (.getfield 10, 3) := by decide +kernel
theorem dX4_newSet_44 : decode cX4_newSet 44 = .ok (.iload_n 1, 1) := by decide +kernel
theorem dX4_newSet_45 : decode cX4_newSet 45 = .ok (.invokevirtual 52, 3) := by decide +kernel
theorem dX4_newSet_48 : decode cX4_newSet 48 = .ok (.ireturn, 1) := by decide +kernel
set_option maxRecDepth 20000 in
theorem ggX4_pay_X4_isSet : GoodIn wsX4_pay wsX4_isSet := goodIn_r _ [9, 1, 10, 45, 46, 47, 48, 49, 50, 51, 52] (by decide +kernel) (by decide +kernel)
set_option maxRecDepth 20000 in
theorem gX4_pay_X4_isSet : GoodIn wsX4_pay (wsV RX4 56 RX4 yX4_isSet wsX4_isSet) := goodIn_app (goodIn_of _ (by decide +kernel)) ggX4_pay_X4_isSet
set_option maxRecDepth 20000 in
theorem ggX4_pay_X2_push : GoodIn wsX4_pay wsX2_push := goodIn_r _ [15, 16, 17, 18, 19, 20, 14, 21, 22, 23, 24, 25, 26, 27, 28, 29, 30, 31, 32, 33, 34, 35, 36, 37, 38, 39, 40, 41, 42, 43, 44, 60, 61, 51, 52, 53, 54, 55, 56, 57, 58, 59] (by decide +kernel) (by decide +kernel)
set_option maxRecDepth 20000 in
theorem gX4_pay_X2_push : GoodIn wsX4_pay (wsV RX4 48 RX2 yX2_push wsX2_push) := goodIn_app (goodIn_of _ (by decide +kernel)) ggX4_pay_X2_push
theorem dX4_pay_0 : decode cX4_pay 0 = .ok (.aload_n 0, 1) := by decide +kernel
theorem dX4_pay_1 : decode cX4_pay 1 = .ok (.iload_n 1, 1) := by decide +kernel
theorem dX4_pay_2 : decode cX4_pay 2 = .ok (.invokevirtual 56, 3) := by decide +kernel
theorem dX4_pay_5 : decode cX4_pay 5 = .ok (.ifCond .ne 5, 3) := by decide +kernel
theorem dX4_pay_8 : decode cX4_pay 8 = .ok (.iconst (-1), 1) := by decide +kernel
theorem dX4_pay_9 : decode cX4_pay 9 = .ok (.ireturn, 1) := by decide +kernel
theorem dX4_pay_10 : decode cX4_pay 10 = .ok (.iload_n 2, 1) := by decide +kernel
theorem dX4_pay_11 : decode cX4_pay 11 = .ok (.iconst 1, 1) := by decide +kernel
theorem dX4_pay_12 : decode cX4_pay 12 = .ok (.if_icmp .lt 10, 3) := by decide +kernel
theorem dX4_pay_15 : decode cX4_pay 15 = .ok (.iload_n 2, 1) := by decide +kernel
theorem dX4_pay_16 : decode cX4_pay 16 = .ok (.sipush 9999, 3) := by decide +kernel
theorem dX4_pay_19 : decode cX4_pay 19 = .ok (.if_icmp .le 6, 3) := by decide +kernel
theorem dX4_pay_22 : decode cX4_pay 22 = .ok (.bipush (-2), 2) := by decide +kernel
theorem dX4_pay_24 : decode cX4_pay 24 = .ok (.ireturn, 1) := by decide +kernel
theorem dX4_pay_25 : decode cX4_pay 25 = .ok (.aload_n 0, 1) := by decide +kernel
theorem dX4_pay_26 : decode cX4_pay 26 = .ok (.getfield 10, 3) := by decide +kernel
theorem dX4_pay_29 : decode cX4_pay 29 = .ok (.getfield 60, 3) := by decide +kernel
theorem dX4_pay_32 : decode cX4_pay 32 = .ok (.iload_n 1, 1) := by decide +kernel
theorem dX4_pay_33 : decode cX4_pay 33 = .ok (.aaload, 1) := by decide +kernel
theorem dX4_pay_34 : decode cX4_pay 34 = .ok (.astore_n 3, 1) := by decide +kernel
theorem dX4_pay_35 : decode cX4_pay 35 = .ok (.aload_n 3, 1) := by decide +kernel
theorem dX4_pay_36 : decode cX4_pay 36 = .ok (.getfield 64, 3) := by decide +kernel
theorem dX4_pay_39 : decode cX4_pay 39 = .ok (.iload_n 2, 1) := by decide +kernel
theorem dX4_pay_40 : decode cX4_pay 40 = .ok (.iadd, 1) := by decide +kernel
theorem dX4_pay_41 : decode cX4_pay 41 = .ok (.sipush 9999, 3) := by decide +kernel
theorem dX4_pay_44 : decode cX4_pay 44 = .ok (.if_icmp .le 6, 3) := by decide +kernel
theorem dX4_pay_47 : decode cX4_pay 47 = .ok (.bipush (-3), 2) := by decide +kernel
theorem dX4_pay_49 : decode cX4_pay 49 = .ok (.ireturn, 1) := by decide +kernel
theorem dX4_pay_50 : decode cX4_pay 50 = .ok (.aload_n 0, 1) := by decide +kernel
theorem dX4_pay_51 : decode cX4_pay 51 = .ok (.getfield 22, 3) := by decide +kernel
theorem dX4_pay_54 : decode cX4_pay 54 = .ok (.aload_n 0, 1) := by decide +kernel
theorem dX4_pay_55 : decode cX4_pay 55 = .ok (.getfield 10, 3) := by decide +kernel
theorem dX4_pay_58 : decode cX4_pay 58 = .ok (.invokevirtual 48, 3) := by decide +kernel
theorem dX4_pay_61 : decode cX4_pay 61 = .ok (.aload_n 3, 1) := by decide +kernel
theorem dX4_pay_62 : decode cX4_pay 62 = .ok (.dup, 1) := by decide +kernel
theorem dX4_pay_63 : decode cX4_pay 63 = .ok (.getfield 64, 3) := by decide +kernel
theorem dX4_pay_66 : decode cX4_pay 66 = .ok (.iload_n 2, 1) := by decide +kernel
theorem dX4_pay_67 : decode cX4_pay 67 = .ok (.iadd, 1) := by decide +kernel
theorem dX4_pay_68 : decode cX4_pay 68 = .ok (.putfield 64, 3) := by decide +kernel
theorem dX4_pay_71 : decode cX4_pay 71 = .ok (.aload_n 3, 1) := by decide +kernel
theorem dX4_pay_72 : decode cX4_pay 72 = .ok (.getfield 64, 3) := by decide +kernel
theorem dX4_pay_75 : decode cX4_pay 75 = .ok (.ireturn, 1) := by decide +kernel
set_option maxRecDepth 20000 in
theorem ggX4_sail_X4_isSet : GoodIn wsX4_sail wsX4_isSet := goodIn_r _ [9, 1, 10, 53, 54, 55, 56, 57, 58, 59, 60] (by decide +kernel) (by decide +kernel)
set_option maxRecDepth 20000 in
theorem gX4_sail_X4_isSet : GoodIn wsX4_sail (wsV RX4 56 RX4 yX4_isSet wsX4_isSet) := goodIn_app (goodIn_of _ (by decide +kernel)) ggX4_sail_X4_isSet
set_option maxRecDepth 20000 in
theorem ggX4_sail_X2_push : GoodIn wsX4_sail wsX2_push := goodIn_r _ [15, 16, 17, 18, 19, 20, 14, 21, 22, 23, 24, 25, 26, 27, 28, 29, 30, 31, 32, 33, 34, 35, 36, 37, 38, 39, 40, 41, 42, 43, 44, 68, 69, 59, 60, 61, 62, 63, 64, 65, 66, 67] (by decide +kernel) (by decide +kernel)
set_option maxRecDepth 20000 in
theorem gX4_sail_X2_push : GoodIn wsX4_sail (wsV RX4 48 RX2 yX2_push wsX2_push) := goodIn_app (goodIn_of _ (by decide +kernel)) ggX4_sail_X2_push
set_option maxRecDepth 20000 in
theorem ggX4_sail_X0_boats : GoodIn wsX4_sail wsX0_boats := goodIn_r _ [48, 49, 50, 51, 32, 52, 40, 39, 61, 62, 63, 64, 65, 66, 67] (by decide +kernel) (by decide +kernel)
set_option maxRecDepth 20000 in
theorem gX4_sail_X0_boats : GoodIn wsX4_sail (wsV RX4 70 RX0 yX0_boats wsX0_boats) := goodIn_app (goodIn_of _ (by decide +kernel)) ggX4_sail_X0_boats
theorem dX4_sail_0 : decode cX4_sail 0 = .ok (.aload_n 0, 1) := by decide +kernel
theorem dX4_sail_1 : decode cX4_sail 1 = .ok (.iload_n 1, 1) := by decide +kernel
theorem dX4_sail_2 : decode cX4_sail 2 = .ok (.invokevirtual 56, 3) := by decide +kernel
theorem dX4_sail_5 : decode cX4_sail 5 = .ok (.ifCond .ne 5, 3) := by decide +kernel
theorem dX4_sail_8 : decode cX4_sail 8 = .ok (.iconst (-1), 1) := by decide +kernel
theorem dX4_sail_9 : decode cX4_sail 9 = .ok (.ireturn, 1) := by decide +kernel
theorem dX4_sail_10 : decode cX4_sail 10 = .ok (.aload_n 0, 1) := by decide +kernel
theorem dX4_sail_11 : decode cX4_sail 11 = .ok (.getfield 10, 3) := by decide +kernel
theorem dX4_sail_14 : decode cX4_sail 14 = .ok (.getfield 60, 3) := by decide +kernel
theorem dX4_sail_17 : decode cX4_sail 17 = .ok (.iload_n 1, 1) := by decide +kernel
theorem dX4_sail_18 : decode cX4_sail 18 = .ok (.aaload, 1) := by decide +kernel
theorem dX4_sail_19 : decode cX4_sail 19 = .ok (.astore_n 2, 1) := by decide +kernel
theorem dX4_sail_20 : decode cX4_sail 20 = .ok (.aload_n 2, 1) := by decide +kernel
theorem dX4_sail_21 : decode cX4_sail 21 = .ok (.getfield 67, 3) := by decide +kernel
theorem dX4_sail_24 : decode cX4_sail 24 = .ok (.ifCond .eq 6, 3) := by decide +kernel
theorem dX4_sail_27 : decode cX4_sail 27 = .ok (.bipush (-5), 2) := by decide +kernel
theorem dX4_sail_29 : decode cX4_sail 29 = .ok (.ireturn, 1) := by decide +kernel
theorem dX4_sail_30 : decode cX4_sail 30 = .ok (.aload_n 0, 1) := by decide +kernel
theorem dX4_sail_31 : decode cX4_sail 31 = .ok (.getfield 22, 3) := by decide +kernel
theorem dX4_sail_34 : decode cX4_sail 34 = .ok (.aload_n 0, 1) := by decide +kernel
theorem dX4_sail_35 : decode cX4_sail 35 = .ok (.getfield 10, 3) := by decide +kernel
theorem dX4_sail_38 : decode cX4_sail 38 = .ok (.invokevirtual 48, 3) := by decide +kernel
theorem dX4_sail_41 : decode cX4_sail 41 = .ok (.aload_n 2, 1) := by decide +kernel
theorem dX4_sail_42 : decode cX4_sail 42 = .ok (.iconst 1, 1) := by decide +kernel
theorem dX4_sail_43 : decode cX4_sail 43 = .ok (.putfield 67, 3) := by decide +kernel
theorem dX4_sail_46 : decode cX4_sail 46 = .ok (.aload_n 2, 1) := by decide +kernel
theorem dX4_sail_47 : decode cX4_sail 47 = .ok (.invokevirtual 70, 3) := by decide +kernel
theorem dX4_sail_50 : decode cX4_sail 50 = .ok (.ireturn, 1) := by decide +kernel
set_option maxRecDepth 20000 in
theorem ggX4_dock_X4_isSet : GoodIn wsX4_dock wsX4_isSet := goodIn_r _ [8, 2, 9, 68, 69, 70, 71, 72, 73, 74, 75] (by decide +kernel) (by decide +kernel)
set_option maxRecDepth 20000 in
theorem gX4_dock_X4_isSet : GoodIn wsX4_dock (wsV RX4 56 RX4 yX4_isSet wsX4_isSet) := goodIn_app (goodIn_of _ (by decide +kernel)) ggX4_dock_X4_isSet
set_option maxRecDepth 20000 in
theorem ggX4_dock_X2_push : GoodIn wsX4_dock wsX2_push := goodIn_r _ [14, 15, 16, 17, 18, 19, 13, 20, 21, 22, 23, 24, 25, 26, 27, 28, 29, 30, 31, 32, 33, 34, 35, 36, 37, 38, 39, 40, 41, 42, 43, 76, 77, 74, 75, 78, 79, 80, 81, 82, 83, 84] (by decide +kernel) (by decide +kernel)
set_option maxRecDepth 20000 in
theorem gX4_dock_X2_push : GoodIn wsX4_dock (wsV RX4 48 RX2 yX2_push wsX2_push) := goodIn_app (goodIn_of _ (by decide +kernel)) ggX4_dock_X2_push
set_option maxRecDepth 20000 in
theorem ggX4_dock_X0_enterHarbour : GoodIn wsX4_dock wsX0_enterHarbour := goodIn_r _ [47, 43, 48, 49, 50, 31, 51, 38, 52, 53, 54, 55, 56, 57, 58, 59, 39, 40, 60, 61, 62, 63, 64, 65, 66, 67, 41, 42, 78, 79, 80, 81, 82, 83, 84] (by decide +kernel) (by decide +kernel)
set_option maxRecDepth 20000 in
theorem gX4_dock_X0_enterHarbour : GoodIn wsX4_dock (wsV RX4 74 RX0 yX0_enterHarbour wsX0_enterHarbour) := goodIn_app (goodIn_of _ (by decide +kernel)) ggX4_dock_X0_enterHarbour
theorem dX4_dock_0 : decode cX4_dock 0 = .ok (.aload_n 0, 1) := by decide +kernel
theorem dX4_dock_1 : decode cX4_dock 1 = .ok (.iload_n 1, 1) := by decide +kernel
theorem dX4_dock_2 : decode cX4_dock 2 = .ok (.invokevirtual 56, 3) := by decide +kernel
theorem dX4_dock_5 : decode cX4_dock 5 = .ok (.ifCond .ne 5, 3) := by decide +kernel
theorem dX4_dock_8 : decode cX4_dock 8 = .ok (.iconst (-1), 1) := by decide +kernel
theorem dX4_dock_9 : decode cX4_dock 9 = .ok (.ireturn, 1) := by decide +kernel
theorem dX4_dock_10 : decode cX4_dock 10 = .ok (.aload_n 0, 1) := by decide +kernel
theorem dX4_dock_11 : decode cX4_dock 11 = .ok (.getfield 22, 3) := by decide +kernel
theorem dX4_dock_14 : decode cX4_dock 14 = .ok (.aload_n 0, 1) := by decide +kernel
theorem dX4_dock_15 : decode cX4_dock 15 = .ok (.getfield 10, 3) := by decide +kernel
theorem dX4_dock_18 : decode cX4_dock 18 = .ok (.invokevirtual 48, 3) := by decide +kernel
theorem dX4_dock_21 : decode cX4_dock 21 = .ok (.aload_n 0, 1) := by decide +kernel
theorem dX4_dock_22 : decode cX4_dock 22 = .ok (.getfield 10, 3) := by decide +kernel
theorem dX4_dock_25 : decode cX4_dock 25 = .ok (.getfield 60, 3) := by decide +kernel
theorem dX4_dock_28 : decode cX4_dock 28 = .ok (.iload_n 1, 1) := by decide +kernel
theorem dX4_dock_29 : decode cX4_dock 29 = .ok (.aaload, 1) := by decide +kernel
theorem dX4_dock_30 : decode cX4_dock 30 = .ok (.invokevirtual 74, 3) := by decide +kernel
theorem dX4_dock_33 : decode cX4_dock 33 = .ok (.ireturn, 1) := by decide +kernel
set_option maxRecDepth 20000 in
theorem ggX4_add_X4_moveRange : GoodIn wsX4_add wsX4_moveRange := goodIn_r _ [8, 9, 1, 2, 10, 11, 12, 7, 13, 14, 15, 16, 17, 18, 19, 20, 21, 22, 23, 24, 25, 26, 27, 28, 29, 30, 31, 32, 33, 34, 35, 36, 37, 38, 39, 40, 41, 42, 43, 44, 45, 46, 47, 48, 49, 50, 51, 52, 53, 54, 55, 56, 57, 58, 59, 60, 61, 62, 63, 64, 65, 66, 67, 68, 69, 70, 71, 72, 73, 74, 75, 76, 77, 78, 79, 80, 81, 82, 83, 84, 85, 86, 87, 88, 89, 90, 91, 92, 93, 94, 95, 96, 97, 98, 99, 100, 101, 102, 103, 104, 105, 106, 107, 108, 109, 110, 111, 112, 113, 114, 115, 116, 117] (by decide +kernel) (by decide +kernel)
set_option maxRecDepth 20000 in
theorem gX4_add_X4_moveRange : GoodIn wsX4_add (wsV RX4 77 RX4 yX4_moveRange wsX4_moveRange) := goodIn_app (goodIn_of _ (by decide +kernel)) ggX4_add_X4_moveRange
theorem dX4_add_0 : decode cX4_add 0 = .ok (.aload_n 0, 1) := by decide +kernel
theorem dX4_add_1 : decode cX4_add 1 = .ok (.iload_n 1, 1) := by decide +kernel
theorem dX4_add_2 : decode cX4_add 2 = .ok (.iload_n 2, 1) := by decide +kernel
theorem dX4_add_3 : decode cX4_add 3 = .ok (.iload_n 2, 1) := by decide +kernel
theorem dX4_add_4 : decode cX4_add 4 = .ok (.iconst 1, 1) := by decide +kernel
theorem dX4_add_5 : decode cX4_add 5 = .ok (.invokevirtual 77, 3) := by decide +kernel
theorem dX4_add_8 : decode cX4_add 8 = .ok (.istore_n 3, 1) := by decide +kernel
theorem dX4_add_9 : decode cX4_add 9 = .ok (.iload_n 3, 1) := by decide +kernel
theorem dX4_add_10 : decode cX4_add 10 = .ok (.ifCond .ge 5, 3) := by decide +kernel
theorem dX4_add_13 : decode cX4_add 13 = .ok (.iload_n 3, 1) := by decide +kernel
theorem dX4_add_14 : decode cX4_add 14 = .ok (.ireturn, 1) := by decide +kernel
theorem dX4_add_15 : decode cX4_add 15 = .ok (.aload_n 0, 1) := by decide +kernel
theorem dX4_add_16 : decode cX4_add 16 = .ok (.getfield 10, 3) := by decide +kernel
theorem dX4_add_19 : decode cX4_add 19 = .ok (.getfield 60, 3) := by decide +kernel
theorem dX4_add_22 : decode cX4_add 22 = .ok (.iload_n 1, 1) := by decide +kernel
theorem dX4_add_23 : decode cX4_add 23 = .ok (.aaload, 1) := by decide +kernel
theorem dX4_add_24 : decode cX4_add 24 = .ok (.getfield 81, 3) := by decide +kernel
theorem dX4_add_27 : decode cX4_add 27 = .ok (.iload_n 2, 1) := by decide +kernel
theorem dX4_add_28 : decode cX4_add 28 = .ok (.sipush 256, 3) := by decide +kernel
theorem dX4_add_31 : decode cX4_add 31 = .ok (.idiv, 1) := by decide +kernel
theorem dX4_add_32 : decode cX4_add 32 = .ok (.iaload, 1) := by decide +kernel
theorem dX4_add_33 : decode cX4_add 33 = .ok (.ireturn, 1) := by decide +kernel
set_option maxRecDepth 20000 in
theorem ggX4_remove_X4_moveRange : GoodIn wsX4_remove wsX4_moveRange := goodIn_r _ [8, 9, 1, 2, 10, 11, 12, 7, 13, 14, 15, 16, 17, 18, 19, 20, 21, 22, 23, 24, 25, 26, 27, 28, 29, 30, 31, 32, 33, 34, 35, 36, 37, 38, 39, 40, 41, 42, 43, 44, 45, 46, 47, 48, 49, 50, 51, 52, 53, 54, 55, 56, 57, 58, 59, 60, 61, 62, 63, 64, 65, 66, 67, 68, 69, 70, 71, 72, 73, 74, 75, 76, 77, 78, 79, 80, 81, 82, 83, 84, 85, 86, 87, 88, 89, 90, 91, 92, 93, 94, 95, 96, 97, 98, 99, 100, 101, 102, 103, 104, 105, 106, 107, 108, 109, 110, 111, 112, 113, 114, 115, 116, 117] (by decide +kernel) (by decide +kernel)
set_option maxRecDepth 20000 in
theorem gX4_remove_X4_moveRange : GoodIn wsX4_remove (wsV RX4 77 RX4 yX4_moveRange wsX4_moveRange) := goodIn_app (goodIn_of _ (by decide +kernel)) ggX4_remove_X4_moveRange
theorem dX4_remove_0 : decode cX4_remove 0 = .ok (.aload_n 0, 1) := by decide +kernel
theorem dX4_remove_1 : decode cX4_remove 1 = .ok (.iload_n 1, 1) := by decide +kernel
theorem dX4_remove_2 : decode cX4_remove 2 = .ok (.iload_n 2, 1) := by decide +kernel
theorem dX4_remove_3 : decode cX4_remove 3 = .ok (.iload_n 2, 1) := by decide +kernel
theorem dX4_remove_4 : decode cX4_remove 4 = .ok (.iconst 0, 1) := by decide +kernel
theorem dX4_remove_5 : decode cX4_remove 5 = .ok (.invokevirtual 77, 3) := by decide +kernel
theorem dX4_remove_8 : decode cX4_remove 8 = .ok (.istore_n 3, 1) := by decide +kernel
theorem dX4_remove_9 : decode cX4_remove 9 = .ok (.iload_n 3, 1) := by decide +kernel
theorem dX4_remove_10 : decode cX4_remove 10 = .ok (.ifCond .ge 5, 3) := by decide +kernel
theorem dX4_remove_13 : decode cX4_remove 13 = .ok (.iload_n 3, 1) := by decide +kernel
theorem dX4_remove_14 : decode cX4_remove 14 = .ok (.ireturn, 1) := by decide +kernel
theorem dX4_remove_15 : decode cX4_remove 15 = .ok (.aload_n 0, 1) := by decide +kernel
theorem dX4_remove_16 : decode cX4_remove 16 = .ok (.getfield 10, 3) := by decide +kernel
theorem dX4_remove_19 : decode cX4_remove 19 = .ok (.getfield 60, 3) := by decide +kernel
theorem dX4_remove_22 : decode cX4_remove 22 = .ok (.iload_n 1, 1) := by decide +kernel
theorem dX4_remove_23 : decode cX4_remove 23 = .ok (.aaload, 1) := by decide +kernel
theorem dX4_remove_24 : decode cX4_remove 24 = .ok (.getfield 85, 3) := by decide +kernel
theorem dX4_remove_27 : decode cX4_remove 27 = .ok (.iload_n 2, 1) := by decide +kernel
theorem dX4_remove_28 : decode cX4_remove 28 = .ok (.sipush 256, 3) := by decide +kernel
theorem dX4_remove_31 : decode cX4_remove 31 = .ok (.idiv, 1) := by decide +kernel
theorem dX4_remove_32 : decode cX4_remove 32 = .ok (.iaload, 1) := by decide +kernel
theorem dX4_remove_33 : decode cX4_remove 33 = .ok (.ireturn, 1) := by decide +kernel
set_option maxRecDepth 20000 in
theorem ggX4_addRange_X4_moveRange : GoodIn wsX4_addRange wsX4_moveRange := goodIn_r _ [5, 6, 7, 8, 9, 10, 11, 4, 12, 13, 14, 15, 16, 17, 18, 19, 20, 21, 22, 23, 24, 25, 26, 27, 28, 29, 30, 31, 32, 33, 34, 35, 36, 37, 38, 39, 40, 41, 42, 43, 44, 45, 46, 47, 48, 49, 50, 51, 52, 53, 54, 55, 56, 57, 58, 59, 60, 61, 62, 63, 64, 65, 66, 67, 68, 69, 70, 71, 72, 73, 74, 75, 76, 77, 78, 79, 80, 81, 82, 83, 84, 85, 86, 87, 88, 89, 90, 91, 92, 93, 94, 95, 96, 97, 98, 99, 100, 101, 102, 103, 104, 105, 106, 107, 108, 109, 110, 111, 112, 113, 114, 115, 116] (by decide +kernel) (by decide +kernel)
set_option maxRecDepth 20000 in
theorem gX4_addRange_X4_moveRange : GoodIn wsX4_addRange (wsV RX4 77 RX4 yX4_moveRange wsX4_moveRange) := goodIn_app (goodIn_of _ (by decide +kernel)) ggX4_addRange_X4_moveRange
theorem dX4_addRange_0 : decode cX4_addRange 0 = .ok (.aload_n 0, 1) := by decide +kernel
theorem dX4_addRange_1 : decode cX4_addRange 1 = .ok (.iload_n 1, 1) := by decide +kernel
theorem dX4_addRange_2 : decode cX4_addRange 2 = .ok (.iload_n 2, 1) := by decide +kernel
theorem dX4_addRange_3 : decode cX4_addRange 3 = .ok (.iload_n 3, 1) := by decide +kernel
theorem dX4_addRange_4 : decode cX4_addRange 4 = .ok (.iconst 1, 1) := by decide +kernel
theorem dX4_addRange_5 : decode cX4_addRange 5 = .ok (.invokevirtual 77, 3) := by decide +kernel
theorem dX4_addRange_8 : decode cX4_addRange 8 = .ok (.ireturn, 1) := by decide +kernel
set_option maxRecDepth 20000 in
theorem ggX4_removeRange_X4_moveRange : GoodIn wsX4_removeRange wsX4_moveRange := goodIn_r _ [5, 6, 7, 8, 9, 10, 11, 4, 12, 13, 14, 15, 16, 17, 18, 19, 20, 21, 22, 23, 24, 25, 26, 27, 28, 29, 30, 31, 32, 33, 34, 35, 36, 37, 38, 39, 40, 41, 42, 43, 44, 45, 46, 47, 48, 49, 50, 51, 52, 53, 54, 55, 56, 57, 58, 59, 60, 61, 62, 63, 64, 65, 66, 67, 68, 69, 70, 71, 72, 73, 74, 75, 76, 77, 78, 79, 80, 81, 82, 83, 84, 85, 86, 87, 88, 89, 90, 91, 92, 93, 94, 95, 96, 97, 98, 99, 100, 101, 102, 103, 104, 105, 106, 107, 108, 109, 110, 111, 112, 113, 114, 115, 116] (by decide +kernel) (by decide +kernel)
set_option maxRecDepth 20000 in
theorem gX4_removeRange_X4_moveRange : GoodIn wsX4_removeRange (wsV RX4 77 RX4 yX4_moveRange wsX4_moveRange) := goodIn_app (goodIn_of _ (by decide +kernel)) ggX4_removeRange_X4_moveRange
theorem dX4_removeRange_0 : decode cX4_removeRange 0 = .ok (.aload_n 0, 1) := by decide +kernel
theorem dX4_removeRange_1 : decode cX4_removeRange 1 = .ok (.iload_n 1, 1) := by decide +kernel
theorem dX4_removeRange_2 : decode cX4_removeRange 2 = .ok (.iload_n 2, 1) := by decide +kernel
theorem dX4_removeRange_3 : decode cX4_removeRange 3 = .ok (.iload_n 3, 1) := by decide +kernel
theorem dX4_removeRange_4 : decode cX4_removeRange 4 = .ok (.iconst 0, 1) := by decide +kernel
theorem dX4_removeRange_5 : decode cX4_removeRange 5 = .ok (.invokevirtual 77, 3) := by decide +kernel
theorem dX4_removeRange_8 : decode cX4_removeRange 8 = .ok (.ireturn, 1) := by decide +kernel
set_option maxRecDepth 20000 in
theorem ggX4_combine_X4_isSet : GoodIn wsX4_combine wsX4_isSet := goodIn_r _ [10, 1, 11, 98, 99, 100, 101, 102, 103, 104, 105] (by decide +kernel) (by decide +kernel)
set_option maxRecDepth 20000 in
theorem gX4_combine_X4_isSet : GoodIn wsX4_combine (wsV RX4 56 RX4 yX4_isSet wsX4_isSet) := goodIn_app (goodIn_of _ (by decide +kernel)) ggX4_combine_X4_isSet
set_option maxRecDepth 20000 in
theorem ggX4_combine_X4_isHow : GoodIn wsX4_combine wsX4_isHow := goodIn_r _ [14] (by decide +kernel) (by decide +kernel)
set_option maxRecDepth 20000 in
theorem gX4_combine_X4_isHow : GoodIn wsX4_combine (va_wsS RX4 88 yX4_isHow wsX4_isHow) := goodIn_app (goodIn_of _ (by decide +kernel)) ggX4_combine_X4_isHow
set_option maxRecDepth 20000 in
theorem ggX4_combine_X0_copyFrom : GoodIn wsX4_combine wsX0_copyFrom := goodIn_r _ [19, 20, 21, 22, 23, 24, 25, 26, 27, 28, 29, 30, 106, 107, 108, 109, 110, 111, 112] (by decide +kernel) (by decide +kernel)
set_option maxRecDepth 20000 in
theorem gX4_combine_X0_copyFrom : GoodIn wsX4_combine (wsV RX4 91 RX0 yX0_copyFrom wsX0_copyFrom) := goodIn_app (goodIn_of _ (by decide +kernel)) ggX4_combine_X0_copyFrom
set_option maxRecDepth 20000 in
theorem ggX4_combine_X0_fillWith : GoodIn wsX4_combine wsX0_fillWith := goodIn_r _ [34, 20, 25, 35, 36, 37, 18, 38, 26, 27, 39, 40, 41, 42, 43, 44, 45, 46, 9, 47, 48, 49, 50, 51, 52, 53, 54, 55, 56, 57, 58, 59, 60, 61, 62, 63, 64, 65, 66, 67, 68, 69, 70, 71, 72, 73, 74, 106, 107, 108, 109, 110, 111, 112] (by decide +kernel) (by decide +kernel)
set_option maxRecDepth 20000 in
theorem gX4_combine_X0_fillWith : GoodIn wsX4_combine (wsV RX4 95 RX0 yX0_fillWith wsX0_fillWith) := goodIn_app (goodIn_of _ (by decide +kernel)) ggX4_combine_X0_fillWith
set_option maxRecDepth 20000 in
theorem ggX4_combine_X2_push : GoodIn wsX4_combine wsX2_push := goodIn_r _ [79, 80, 81, 82, 83, 84, 78, 85, 86, 87, 88, 89, 90, 91, 92, 93, 16, 17, 18, 19, 20, 21, 22, 23, 24, 25, 26, 27, 28, 29, 30, 113, 114, 104, 105, 106, 107, 108, 109, 110, 111, 112] (by decide +kernel) (by decide +kernel)
set_option maxRecDepth 20000 in
theorem gX4_combine_X2_push : GoodIn wsX4_combine (wsV RX4 48 RX2 yX2_push wsX2_push) := goodIn_app (goodIn_of _ (by decide +kernel)) ggX4_combine_X2_push
set_option maxRecDepth 20000 in
theorem ggX4_combine_X0_numbers : GoodIn wsX4_combine wsX0_numbers := goodIn_r _ [97, 26, 106, 107, 108, 109, 110, 111, 112] (by decide +kernel) (by decide +kernel)
set_option maxRecDepth 20000 in
theorem gX4_combine_X0_numbers : GoodIn wsX4_combine (wsV RX4 99 RX0 yX0_numbers wsX0_numbers) := goodIn_app (goodIn_of _ (by decide +kernel)) ggX4_combine_X0_numbers
theorem dX4_combine_0 : decode cX4_combine 0 = .ok (.aload_n 0, 1) := by decide +kernel
theorem dX4_combine_1 : decode cX4_combine 1 = .ok (.iload_n 2, 1) := by decide +kernel
theorem dX4_combine_2 : decode cX4_combine 2 = .ok (.invokevirtual 56, 3) := by decide +kernel
theorem dX4_combine_5 : decode cX4_combine 5 = .ok (.ifCond .eq 20, 3) := by decide +kernel
theorem dX4_combine_8 : decode cX4_combine 8 = .ok (.aload_n 0, 1) := by decide +kernel
theorem dX4_combine_9 : decode cX4_combine 9 = .ok (.iload_n 3, 1) := by decide +kernel
theorem dX4_combine_10 : decode cX4_combine 10 = .ok (.invokevirtual 56, 3) := by decide +kernel
theorem dX4_combine_13 : decode cX4_combine 13 = .ok (.ifCond .eq 12, 3) := by decide +kernel
theorem dX4_combine_16 : decode cX4_combine 16 = .ok (.aload_n 0, 1) := by decide +kernel
theorem dX4_combine_17 : decode cX4_combine 17 = .ok (.iload 4, 2) := by decide +kernel
theorem dX4_combine_19 : decode cX4_combine 19 = .ok (.invokevirtual 56, 3) := by decide +kernel
theorem dX4_combine_22 : decode cX4_combine 22 = .ok (.ifCond .ne 5, 3) := by decide +kernel
theorem dX4_combine_25 : decode cX4_combine 25 = .ok (.iconst (-1), 1) := by decide +kernel
theorem dX4_combine_26 : decode cX4_combine 26 = .ok (.ireturn, 1) := by decide +kernel
theorem dX4_combine_27 : decode cX4_combine 27 = .ok (.iload_n 1, 1) := by decide +kernel
theorem dX4_combine_28 : decode cX4_combine 28 = .ok (.invokestatic 88, 3) := by decide +kernel
theorem dX4_combine_31 : decode cX4_combine 31 = .ok (.ifCond .ne 6, 3) := by decide +kernel
theorem dX4_combine_34 : decode cX4_combine 34 = .ok (.bipush (-2), 2) := by decide +kernel
theorem dX4_combine_36 : decode cX4_combine 36 = .ok (.ireturn, 1) := by decide +kernel
theorem dX4_combine_37 : decode cX4_combine 37 = .ok (.aload_n 0, 1) := by decide +kernel
theorem dX4_combine_38 : decode cX4_combine 38 = .ok (.getfield 10, 3) := by decide +kernel
theorem dX4_combine_41 : decode cX4_combine 41 = .ok (.getfield 60, 3) := by decide +kernel
theorem dX4_combine_44 : decode cX4_combine 44 = .ok (.iload_n 2, 1) := by decide +kernel
theorem dX4_combine_45 : decode cX4_combine 45 = .ok (.aaload, 1) := by decide +kernel
theorem dX4_combine_46 : decode cX4_combine 46 = .ok (.astore 5, 2) := by decide +kernel
theorem dX4_combine_48 : decode cX4_combine 48 = .ok (.aload 5, 2) := by decide +kernel
theorem dX4_combine_50 : decode cX4_combine 50 = .ok (.getfield 67, 3) := by decide +kernel
theorem dX4_combine_53 : decode cX4_combine 53 = .ok (.ifCond .eq 6, 3) := by decide +kernel
theorem dX4_combine_56 : decode cX4_combine 56 = .ok (.bipush (-4), 2) := by decide +kernel
theorem dX4_combine_58 : decode cX4_combine 58 = .ok (.ireturn, 1) := by decide +kernel
theorem dX4_combine_59 : decode cX4_combine 59 = .ok (.aload_n 0, 1) := by decide +kernel
theorem dX4_combine_60 : decode cX4_combine 60 = .ok (.getfield 36, 3) := by decide +kernel
theorem dX4_combine_63 : decode cX4_combine 63 = .ok (.aload 5, 2) := by decide +kernel
theorem dX4_combine_65 : decode cX4_combine 65 = .ok (.invokevirtual 91, 3) := by decide +kernel
theorem dX4_combine_68 : decode cX4_combine 68 = .ok (.aload_n 0, 1) := by decide +kernel
theorem dX4_combine_69 : decode cX4_combine 69 = .ok (.getfield 36, 3) := by decide +kernel
theorem dX4_combine_72 : decode cX4_combine 72 = .ok (.iload_n 1, 1) := by decide +kernel
theorem dX4_combine_73 : decode cX4_combine 73 = .ok (.aload_n 0, 1) := by decide +kernel
theorem dX4_combine_74 : decode cX4_combine 74 = .ok (.getfield 10, 3) := by decide +kernel
theorem dX4_combine_77 : decode cX4_combine 77 = .ok (.getfield 60, 3) := by decide +kernel
theorem dX4_combine_80 : decode cX4_combine 80 = .ok (.iload_n 3, 1) := by decide +kernel
theorem dX4_combine_81 : decode cX4_combine 81 = .ok (.aaload, 1) := by decide +kernel
theorem dX4_combine_82 : decode cX4_combine 82 = .ok (.aload_n 0, 1) := by decide +kernel
theorem dX4_combine_83 : decode cX4_combine 83 = .ok (.getfield 10, 3) := by decide +kernel
theorem dX4_combine_86 : decode cX4_combine 86 = .ok (.getfield 60, 3) := by decide +kernel
theorem dX4_combine_89 : decode cX4_combine 89 = .ok (.iload 4, 2) := by decide +kernel
theorem dX4_combine_91 : decode cX4_combine 91 = .ok (.aaload, 1) := by decide +kernel
theorem dX4_combine_92 : decode cX4_combine 92 = .ok (.invokevirtual 95, 3) := by decide +kernel
theorem dX4_combine_95 : decode cX4_combine 95 = .ok (.aload_n 0, 1) := by decide +kernel
theorem dX4_combine_96 : decode cX4_combine 96 = .ok (.getfield 22, 3) := by decide +kernel
theorem dX4_combine_99 : decode cX4_combine 99 = .ok (.aload_n 0, 1) := by decide +kernel
theorem dX4_combine_100 : decode cX4_combine 100 = .ok (.getfield 10, 3) := by decide +kernel
theorem dX4_combine_103 : decode cX4_combine 103 = .ok (.invokevirtual 48, 3) := by decide +kernel
theorem dX4_combine_106 : decode cX4_combine 106 = .ok (.aload 5, 2) := by decide +kernel
theorem dX4_combine_108 : decode cX4_combine 108 = .ok (.aload_n 0, 1) := by decide +kernel
theorem dX4_combine_109 : decode cX4_combine 109 = .ok (.getfield 36, 3) := by decide +kernel
theorem dX4_combine_112 : decode cX4_combine 112 = .ok (.invokevirtual 91, 3) := by decide +kernel
theorem dX4_combine_115 : decode cX4_combine 115 = .ok (.aload 5, 2) := by decide +kernel
theorem dX4_combine_117 : decode cX4_combine 117 = .ok (.invokevirtual 99, 3) := by decide +kernel
theorem dX4_combine_120 : decode cX4_combine 120 = .ok (.ireturn, 1) := by decide +kernel
set_option maxRecDepth 20000 in
theorem ggX4_readRanges_X4_isSet : GoodIn wsX4_readRanges wsX4_isSet := goodIn_r _ [12, 3, 13, 117, 118, 119, 120, 121, 122, 123, 124] (by decide +kernel) (by decide +kernel)
set_option maxRecDepth 20000 in
theorem gX4_readRanges_X4_isSet : GoodIn wsX4_readRanges (wsV RX4 56 RX4 yX4_isSet wsX4_isSet) := goodIn_app (goodIn_of _ (by decide +kernel)) ggX4_readRanges_X4_isSet
set_option maxRecDepth 20000 in
theorem ggX4_readRanges_X3_read : GoodIn wsX4_readRanges wsX3_read := goodIn_r _ [18, 19, 20, 21, 22, 23, 24, 17, 25, 26, 27, 125, 126, 127, 128, 129] (by decide +kernel) (by decide +kernel)
set_option maxRecDepth 20000 in
theorem gX4_readRanges_X3_read : GoodIn wsX4_readRanges (wsV RX4 109 RX3 yX3_read wsX3_read) := goodIn_app (goodIn_of _ (by decide +kernel)) ggX4_readRanges_X3_read
set_option maxRecDepth 20000 in
theorem ggX4_readRanges_X3_hasGoodValues : GoodIn wsX4_readRanges wsX3_hasGoodValues := goodIn_r _ [31, 19, 26, 27, 32, 11, 33, 125, 126, 127, 128, 129] (by decide +kernel) (by decide +kernel)
set_option maxRecDepth 20000 in
theorem gX4_readRanges_X3_hasGoodValues : GoodIn wsX4_readRanges (wsV RX4 112 RX3 yX3_hasGoodValues wsX3_hasGoodValues) := goodIn_app (goodIn_of _ (by decide +kernel)) ggX4_readRanges_X3_hasGoodValues
set_option maxRecDepth 20000 in
theorem ggX4_readRanges_X0_copyFrom : GoodIn wsX4_readRanges wsX0_copyFrom := goodIn_r _ [38, 39, 40, 41, 42, 43, 44, 45, 46, 47, 48, 49, 130, 131, 132, 133, 134, 135, 136] (by decide +kernel) (by decide +kernel)
set_option maxRecDepth 20000 in
theorem gX4_readRanges_X0_copyFrom : GoodIn wsX4_readRanges (wsV RX4 91 RX0 yX0_copyFrom wsX0_copyFrom) := goodIn_app (goodIn_of _ (by decide +kernel)) ggX4_readRanges_X0_copyFrom
set_option maxRecDepth 20000 in
theorem ggX4_readRanges_X0_move : GoodIn wsX4_readRanges wsX0_move := goodIn_r _ [53, 54, 55, 56, 57, 58, 59, 60, 61, 62, 63, 37, 64, 39, 32, 11, 33, 65, 66, 67, 68, 45, 46, 69, 70, 71, 72, 73, 74, 75, 76, 44, 49, 77, 78, 79, 80, 47, 48, 81, 82, 83, 84, 85, 86, 87, 88, 89, 90, 91, 92, 130, 131, 132, 133, 134, 135, 136] (by decide +kernel) (by decide +kernel)
set_option maxRecDepth 20000 in
theorem gX4_readRanges_X0_move : GoodIn wsX4_readRanges (wsV RX4 125 RX0 yX0_move wsX0_move) := goodIn_app (goodIn_of _ (by decide +kernel)) ggX4_readRanges_X0_move
set_option maxRecDepth 20000 in
theorem ggX4_readRanges_X4_settleTrial : GoodIn wsX4_readRanges wsX4_settleTrial := goodIn_r _ [96, 97, 3, 4, 2, 98, 99, 100, 101, 102, 103, 104, 105, 106, 107, 108, 109, 110, 111, 112, 113, 114, 115, 116, 35, 36, 37, 38, 39, 40, 41, 42, 43, 44, 45, 46, 47, 48, 49, 34, 117, 118, 119, 120, 121, 122, 123, 124, 137, 138, 130, 131, 132, 133, 134, 135, 136] (by decide +kernel) (by decide +kernel)
set_option maxRecDepth 20000 in
theorem gX4_readRanges_X4_settleTrial : GoodIn wsX4_readRanges (wsV RX4 129 RX4 yX4_settleTrial wsX4_settleTrial) := goodIn_app (goodIn_of _ (by decide +kernel)) ggX4_readRanges_X4_settleTrial
theorem dX4_readRanges_0 : decode cX4_readRanges 0 = .ok (.aload_n 0, 1) := by decide +kernel
theorem dX4_readRanges_1 : decode cX4_readRanges 1 = .ok (.iload_n 1, 1) := by decide +kernel
theorem dX4_readRanges_2 : decode cX4_readRanges 2 = .ok (.invokevirtual 56, 3) := by decide +kernel
theorem dX4_readRanges_5 : decode cX4_readRanges 5 = .ok (.ifCond .ne 5, 3) := by decide +kernel
theorem dX4_readRanges_8 : decode cX4_readRanges 8 = .ok (.iconst (-1), 1) := by decide +kernel
theorem dX4_readRanges_9 : decode cX4_readRanges 9 = .ok (.ireturn, 1) := by decide +kernel
theorem dX4_readRanges_10 : decode cX4_readRanges 10 = .ok (.aload_n 0, 1) := by decide +kernel
theorem dX4_readRanges_11 : decode cX4_readRanges 11 = .ok (.getfield 29, 3) := by decide +kernel
theorem dX4_readRanges_14 : decode cX4_readRanges 14 = .ok (.invokevirtual 109, 3) := by decide +kernel
theorem dX4_readRanges_17 : decode cX4_readRanges 17 = .ok (.istore_n 2, 1) := by decide +kernel
theorem dX4_readRanges_18 : decode cX4_readRanges 18 = .ok (.iload_n 2, 1) := by decide +kernel
theorem dX4_readRanges_19 : decode cX4_readRanges 19 = .ok (.iconst (-1), 1) := by decide +kernel
theorem dX4_readRanges_20 : decode cX4_readRanges 20 = .ok (.if_icmp .eq 8, 3) := by decide +kernel
theorem dX4_readRanges_23 : decode cX4_readRanges 23 = .ok (.bipush (-100), 2) := by decide +kernel
theorem dX4_readRanges_25 : decode cX4_readRanges 25 = .ok (.iload_n 2, 1) := by decide +kernel
theorem dX4_readRanges_26 : decode cX4_readRanges 26 = .ok (.isub, 1) := by decide +kernel
theorem dX4_readRanges_27 : decode cX4_readRanges 27 = .ok (.ireturn, 1) := by decide +kernel
theorem dX4_readRanges_28 : decode cX4_readRanges 28 = .ok (.aload_n 0, 1) := by decide +kernel
theorem dX4_readRanges_29 : decode cX4_readRanges 29 = .ok (.getfield 29, 3) := by decide +kernel
theorem dX4_readRanges_32 : decode cX4_readRanges 32 = .ok (.invokevirtual 112, 3) := by decide +kernel
theorem dX4_readRanges_35 : decode cX4_readRanges 35 = .ok (.ifCond .ne 6, 3) := by decide +kernel
theorem dX4_readRanges_38 : decode cX4_readRanges 38 = .ok (.bipush (-2), 2) := by decide +kernel
theorem dX4_readRanges_40 : decode cX4_readRanges 40 = .ok (.ireturn, 1) := by decide +kernel
theorem dX4_readRanges_41 : decode cX4_readRanges 41 = .ok (.aload_n 0, 1) := by decide +kernel
theorem dX4_readRanges_42 : decode cX4_readRanges 42 = .ok (.getfield 36, 3) := by decide +kernel
theorem dX4_readRanges_45 : decode cX4_readRanges 45 = .ok (.aload_n 0, 1) := by decide +kernel
theorem dX4_readRanges_46 : decode cX4_readRanges 46 = .ok (.getfield 10, 3) := by decide +kernel
theorem dX4_readRanges_49 : decode cX4_readRanges 49 = .ok (.getfield 60, 3) := by decide +kernel
theorem dX4_readRanges_52 : decode cX4_readRanges 52 = .ok (.iload_n 1, 1) := by decide +kernel
theorem dX4_readRanges_53 : decode cX4_readRanges 53 = .ok (.aaload, 1) := by decide +kernel
theorem dX4_readRanges_54 : decode cX4_readRanges 54 = .ok (.invokevirtual 91, 3) := by decide +kernel
theorem dX4_readRanges_57 : decode cX4_readRanges 57 = .ok (.iconst 0, 1) := by decide +kernel
theorem dX4_readRanges_58 : decode cX4_readRanges 58 = .ok (.istore_n 3, 1) := by decide +kernel
theorem dX4_readRanges_59 : decode cX4_readRanges 59 = .ok (.iconst 0, 1) := by decide +kernel
theorem dX4_readRanges_60 : decode cX4_readRanges 60 = .ok (.istore 4, 2) := by decide +kernel
theorem dX4_readRanges_62 : decode cX4_readRanges 62 = .ok (.iload 4, 2) := by decide +kernel
theorem dX4_readRanges_64 : decode cX4_readRanges 64 = .ok (.aload_n 0, 1) := by decide +kernel
theorem dX4_readRanges_65 : decode cX4_readRanges 65 = .ok (.getfield 29, 3) := by decide +kernel
theorem dX4_readRanges_68 : decode cX4_readRanges 68 = .ok (.getfield 116, 3) := by decide +kernel
theorem dX4_readRanges_71 : decode cX4_readRanges 71 = .ok (.if_icmp .ge 52, 3) := by decide +kernel
theorem dX4_readRanges_74 : decode cX4_readRanges 74 = .ok (.aload_n 0, 1) := by decide +kernel
theorem dX4_readRanges_75 : decode cX4_readRanges 75 = .ok (.getfield 36, 3) := by decide +kernel
theorem dX4_readRanges_78 : decode cX4_readRanges 78 = .ok (.aload_n 0, 1) := by decide +kernel
theorem dX4_readRanges_79 : decode cX4_readRanges 79 = .ok (.getfield 29, 3) := by decide +kernel
theorem dX4_readRanges_82 : decode cX4_readRanges 82 = .ok (.getfield 119, 3) := by decide +kernel
theorem dX4_readRanges_85 : decode cX4_readRanges 85 = .ok (.iload 4, 2) := by decide +kernel
theorem dX4_readRanges_87 : decode cX4_readRanges 87 = .ok (.iaload, 1) := by decide +kernel
theorem dX4_readRanges_88 : decode cX4_readRanges 88 = .ok (.aload_n 0, 1) := by decide +kernel
theorem dX4_readRanges_89 : decode cX4_readRanges 89 = .ok (.getfield 29, 3) := by decide +kernel
theorem dX4_readRanges_92 : decode cX4_readRanges 92 = .ok (.getfield 122, 3) := by decide +kernel
theorem dX4_readRanges_95 : decode cX4_readRanges 95 = .ok (.iload 4, 2) := by decide +kernel
theorem dX4_readRanges_97 : decode cX4_readRanges 97 = .ok (.iaload, 1) := by decide +kernel
theorem dX4_readRanges_98 : decode cX4_readRanges 98 = .ok (.iconst 1, 1) := by decide +kernel
theorem dX4_readRanges_99 : decode cX4_readRanges 99 = .ok (.invokevirtual 125, 3) := by decide +kernel
theorem dX4_readRanges_102 : decode cX4_readRanges 102 = .ok (.istore 5, 2) := by decide +kernel
theorem dX4_readRanges_104 : decode cX4_readRanges 104 = .ok (.iload 5, 2) := by decide +kernel
theorem dX4_readRanges_106 : decode cX4_readRanges 106 = .ok (.ifCond .ge 6, 3) := by decide +kernel
theorem dX4_readRanges_109 : decode cX4_readRanges 109 = .ok (.iload 5, 2) := by decide +kernel
theorem dX4_readRanges_111 : decode cX4_readRanges 111 = .ok (.ireturn, 1) := by decide +kernel
theorem dX4_readRanges_112 : decode cX4_readRanges 112 = .ok (.iload_n 3, 1) := by decide +kernel
theorem dX4_readRanges_113 : decode cX4_readRanges 113 = .ok (.iload 5, 2) := by decide +kernel
theorem dX4_readRanges_115 : decode cX4_readRanges 115 = .ok (.iadd, 1) := by decide +kernel
theorem dX4_readRanges_116 : decode cX4_readRanges 116 = .ok (.istore_n 3, 1) := by decide +kernel
theorem dX4_readRanges_117 : decode cX4_readRanges 117 = .ok (.iinc 4 1, 3) := by decide +kernel
theorem dX4_readRanges_120 : decode cX4_readRanges 120 = .ok (.goto (-58), 3) := by decide +kernel
theorem dX4_readRanges_123 : decode cX4_readRanges 123 = .ok (.aload_n 0, 1) := by decide +kernel
theorem dX4_readRanges_124 : decode cX4_readRanges 124 = .ok (.iload_n 1, 1) := by decide +kernel
theorem dX4_readRanges_125 : decode cX4_readRanges 125 = .ok (.iload_n 3, 1) := by decide +kernel
theorem dX4_readRanges_126 : decode cX4_readRanges 126 = .ok (.invokevirtual 129, 3) := by decide +kernel
theorem dX4_readRanges_129 : decode cX4_readRanges 129 = .ok (.ireturn, 1) := by decide +kernel
set_option maxRecDepth 20000 in
theorem ggX4_undo_X2_popInto : GoodIn wsX4_undo wsX2_popInto := goodIn_r _ [8, 9, 10, 11, 12, 13, 14, 15, 16, 17, 18, 19, 20, 21, 22, 23, 24, 25, 26, 27, 28, 29, 30, 31, 32, 33, 40, 41, 42, 43, 44, 45, 46, 47, 48, 49, 50] (by decide +kernel) (by decide +kernel)
set_option maxRecDepth 20000 in
theorem gX4_undo_X2_popInto : GoodIn wsX4_undo (wsV RX4 136 RX2 yX2_popInto wsX2_popInto) := goodIn_app (goodIn_of _ (by decide +kernel)) ggX4_undo_X2_popInto
theorem dX4_undo_0 : decode cX4_undo 0 = .ok (.aload_n 0, 1) := by decide +kernel
theorem dX4_undo_1 : decode cX4_undo 1 = .ok (.getfield 22, 3) := by decide +kernel
theorem dX4_undo_4 : decode cX4_undo 4 = .ok (.getfield 133, 3) := by decide +kernel
theorem dX4_undo_7 : decode cX4_undo 7 = .ok (.ifCond .ne 6, 3) := by decide +kernel
theorem dX4_undo_10 : decode cX4_undo 10 = .ok (.bipush (-5), 2) := by decide +kernel
theorem dX4_undo_12 : decode cX4_undo 12 = .ok (.ireturn, 1) := by decide +kernel
theorem dX4_undo_13 : decode cX4_undo 13 = .ok (.aload_n 0, 1) := by decide +kernel
theorem dX4_undo_14 : decode cX4_undo 14 = .ok (.getfield 22, 3) := by decide +kernel
theorem dX4_undo_17 : decode cX4_undo 17 = .ok (.aload_n 0, 1) := by decide +kernel
theorem dX4_undo_18 : decode cX4_undo 18 = .ok (.getfield 10, 3) := by decide +kernel
theorem dX4_undo_21 : decode cX4_undo 21 = .ok (.invokevirtual 136, 3) := by decide +kernel
theorem dX4_undo_24 : decode cX4_undo 24 = .ok (.aload_n 0, 1) := by decide +kernel
theorem dX4_undo_25 : decode cX4_undo 25 = .ok (.getfield 22, 3) := by decide +kernel
theorem dX4_undo_28 : decode cX4_undo 28 = .ok (.getfield 133, 3) := by decide +kernel
theorem dX4_undo_31 : decode cX4_undo 31 = .ok (.ireturn, 1) := by decide +kernel
set_option maxRecDepth 20000 in
theorem ggX4_keep_X1_copyFrom : GoodIn wsX4_keep wsX1_copyFrom := goodIn_r _ [9, 10, 11, 12, 13, 14, 15, 16, 17, 18, 19, 20, 21, 22, 23, 24, 25, 26, 27, 34, 35, 36, 37, 38, 39, 40, 41, 42] (by decide +kernel) (by decide +kernel)
set_option maxRecDepth 20000 in
theorem gX4_keep_X1_copyFrom : GoodIn wsX4_keep (wsV RX4 139 RX1 yX1_copyFrom wsX1_copyFrom) := goodIn_app (goodIn_of _ (by decide +kernel)) ggX4_keep_X1_copyFrom
theorem dX4_keep_0 : decode cX4_keep 0 = .ok (.aload_n 0, 1) := by decide +kernel
theorem dX4_keep_1 : decode cX4_keep 1 = .ok (.getfield 16, 3) := by decide +kernel
theorem dX4_keep_4 : decode cX4_keep 4 = .ok (.aload_n 0, 1) := by decide +kernel
theorem dX4_keep_5 : decode cX4_keep 5 = .ok (.getfield 10, 3) := by decide +kernel
theorem dX4_keep_8 : decode cX4_keep 8 = .ok (.invokevirtual 139, 3) := by decide +kernel
theorem dX4_keep_11 : decode cX4_keep 11 = .ok (.aload_n 0, 1) := by decide +kernel
theorem dX4_keep_12 : decode cX4_keep 12 = .ok (.iconst 1, 1) := by decide +kernel
theorem dX4_keep_13 : decode cX4_keep 13 = .ok (.putfield 40, 3) := by decide +kernel
theorem dX4_keep_16 : decode cX4_keep 16 = .ok (.aload_n 0, 1) := by decide +kernel
theorem dX4_keep_17 : decode cX4_keep 17 = .ok (.getfield 10, 3) := by decide +kernel
theorem dX4_keep_20 : decode cX4_keep 20 = .ok (.getfield 44, 3) := by decide +kernel
theorem dX4_keep_23 : decode cX4_keep 23 = .ok (.ireturn, 1) := by decide +kernel
set_option maxRecDepth 20000 in
theorem ggX4_restore_X2_push : GoodIn wsX4_restore wsX2_push := goodIn_r _ [10, 11, 12, 13, 14, 15, 9, 16, 17, 18, 19, 20, 21, 22, 23, 24, 25, 26, 27, 28, 29, 30, 31, 32, 33, 34, 35, 36, 37, 38, 39, 49, 50, 47, 48, 51, 52, 53, 54, 55, 56, 57] (by decide +kernel) (by decide +kernel)
set_option maxRecDepth 20000 in
theorem gX4_restore_X2_push : GoodIn wsX4_restore (wsV RX4 48 RX2 yX2_push wsX2_push) := goodIn_app (goodIn_of _ (by decide +kernel)) ggX4_restore_X2_push
set_option maxRecDepth 20000 in
theorem ggX4_restore_X1_copyFrom : GoodIn wsX4_restore wsX1_copyFrom := goodIn_r _ [21, 22, 23, 24, 25, 26, 27, 28, 29, 30, 31, 32, 33, 34, 35, 36, 37, 38, 39, 47, 48, 51, 52, 53, 54, 55, 56, 57] (by decide +kernel) (by decide +kernel)
set_option maxRecDepth 20000 in
theorem gX4_restore_X1_copyFrom : GoodIn wsX4_restore (wsV RX4 139 RX1 yX1_copyFrom wsX1_copyFrom) := goodIn_app (goodIn_of _ (by decide +kernel)) ggX4_restore_X1_copyFrom
theorem dX4_restore_0 : decode cX4_restore 0 = .ok (.aload_n 0, 1) := by decide +kernel
theorem dX4_restore_1 : decode cX4_restore 1 = .ok (.getfield 40, 3) := by decide +kernel
theorem dX4_restore_4 : decode cX4_restore 4 = .ok (.ifCond .ne 6, 3) := by decide +kernel
theorem dX4_restore_7 : decode cX4_restore 7 = .ok (.bipush (-5), 2) := by decide +kernel
theorem dX4_restore_9 : decode cX4_restore 9 = .ok (.ireturn, 1) := by decide +kernel
theorem dX4_restore_10 : decode cX4_restore 10 = .ok (.aload_n 0, 1) := by decide +kernel
theorem dX4_restore_11 : decode cX4_restore 11 = .ok (.getfield 22, 3) := by decide +kernel
theorem dX4_restore_14 : decode cX4_restore 14 = .ok (.aload_n 0, 1) := by decide +kernel
theorem dX4_restore_15 : decode cX4_restore 15 = .ok (.getfield 10, 3) := by decide +kernel
theorem dX4_restore_18 : decode cX4_restore 18 = .ok (.invokevirtual 48, 3) := by decide +kernel
theorem dX4_restore_21 : decode cX4_restore 21 = .ok (.aload_n 0, 1) := by decide +kernel
theorem dX4_restore_22 : decode cX4_restore 22 = .ok (.getfield 10, 3) := by decide +kernel
theorem dX4_restore_25 : decode cX4_restore 25 = .ok (.aload_n 0, 1) := by decide +kernel
theorem dX4_restore_26 : decode cX4_restore 26 = .ok (.getfield 16, 3) := by decide +kernel
theorem dX4_restore_29 : decode cX4_restore 29 = .ok (.invokevirtual 139, 3) := by decide +kernel
theorem dX4_restore_32 : decode cX4_restore 32 = .ok (.aload_n 0, 1) := by decide +kernel
theorem dX4_restore_33 : decode cX4_restore 33 = .ok (.getfield 10, 3) := by decide +kernel
theorem dX4_restore_36 : decode cX4_restore 36 = .ok (.getfield 44, 3) := by decide +kernel
theorem dX4_restore_39 : decode cX4_restore 39 = .ok (.ireturn, 1) := by decide +kernel
set_option maxRecDepth 20000 in
theorem ggX4_has_X4_isSet : GoodIn wsX4_has wsX4_isSet := goodIn_r _ [7, 1, 8, 18, 19, 20, 21, 22, 23, 24, 25] (by decide +kernel) (by decide +kernel)
set_option maxRecDepth 20000 in
theorem gX4_has_X4_isSet : GoodIn wsX4_has (wsV RX4 56 RX4 yX4_isSet wsX4_isSet) := goodIn_app (goodIn_of _ (by decide +kernel)) ggX4_has_X4_isSet
set_option maxRecDepth 20000 in
theorem ggX4_has_X4_isNumber : GoodIn wsX4_has wsX4_isNumber := goodIn_r _ [11] (by decide +kernel) (by decide +kernel)
set_option maxRecDepth 20000 in
theorem gX4_has_X4_isNumber : GoodIn wsX4_has (va_wsS RX4 141 yX4_isNumber wsX4_isNumber) := goodIn_app (goodIn_of _ (by decide +kernel)) ggX4_has_X4_isNumber
set_option maxRecDepth 20000 in
theorem ggX4_has_X0_holds : GoodIn wsX4_has wsX0_holds := goodIn_r _ [16, 17, 10, 6, 11, 26, 27, 28, 29, 30, 31, 32] (by decide +kernel) (by decide +kernel)
set_option maxRecDepth 20000 in
theorem gX4_has_X0_holds : GoodIn wsX4_has (wsV RX4 144 RX0 yX0_holds wsX0_holds) := goodIn_app (goodIn_of _ (by decide +kernel)) ggX4_has_X0_holds
theorem dX4_has_0 : decode cX4_has 0 = .ok (.aload_n 0, 1) := by decide +kernel
theorem dX4_has_1 : decode cX4_has 1 = .ok (.iload_n 1, 1) := by decide +kernel
theorem dX4_has_2 : decode cX4_has 2 = .ok (.invokevirtual 56, 3) := by decide +kernel
theorem dX4_has_5 : decode cX4_has 5 = .ok (.ifCond .ne 5, 3) := by decide +kernel
theorem dX4_has_8 : decode cX4_has 8 = .ok (.iconst (-1), 1) := by decide +kernel
theorem dX4_has_9 : decode cX4_has 9 = .ok (.ireturn, 1) := by decide +kernel
theorem dX4_has_10 : decode cX4_has 10 = .ok (.iload_n 2, 1) := by decide +kernel
theorem dX4_has_11 : decode cX4_has 11 = .ok (.invokestatic 141, 3) := by decide +kernel
theorem dX4_has_14 : decode cX4_has 14 = .ok (.ifCond .ne 6, 3) := by decide +kernel
theorem dX4_has_17 : decode cX4_has 17 = .ok (.bipush (-2), 2) := by decide +kernel
theorem dX4_has_19 : decode cX4_has 19 = .ok (.ireturn, 1) := by decide +kernel
theorem dX4_has_20 : decode cX4_has 20 = .ok (.aload_n 0, 1) := by decide +kernel
theorem dX4_has_21 : decode cX4_has 21 = .ok (.getfield 10, 3) := by decide +kernel
theorem dX4_has_24 : decode cX4_has 24 = .ok (.getfield 60, 3) := by decide +kernel
theorem dX4_has_27 : decode cX4_has 27 = .ok (.iload_n 1, 1) := by decide +kernel
theorem dX4_has_28 : decode cX4_has 28 = .ok (.aaload, 1) := by decide +kernel
theorem dX4_has_29 : decode cX4_has 29 = .ok (.iload_n 2, 1) := by decide +kernel
theorem dX4_has_30 : decode cX4_has 30 = .ok (.invokevirtual 144, 3) := by decide +kernel
theorem dX4_has_33 : decode cX4_has 33 = .ok (.ifCond .eq 7, 3) := by decide +kernel
theorem dX4_has_36 : decode cX4_has 36 = .ok (.iconst 1, 1) := by decide +kernel
theorem dX4_has_37 : decode cX4_has 37 = .ok (.goto 4, 3) := by decide +kernel
theorem dX4_has_40 : decode cX4_has 40 = .ok (.iconst 0, 1) := by decide +kernel
theorem dX4_has_41 : decode cX4_has 41 = .ok (.ireturn, 1) := by decide +kernel
set_option maxRecDepth 20000 in
theorem ggX4_set_X4_isSet : GoodIn wsX4_set wsX4_isSet := goodIn_r _ [10, 1, 11, 67, 68, 69, 70, 71, 72, 73, 74] (by decide +kernel) (by decide +kernel)
set_option maxRecDepth 20000 in
theorem gX4_set_X4_isSet : GoodIn wsX4_set (wsV RX4 56 RX4 yX4_isSet wsX4_isSet) := goodIn_app (goodIn_of _ (by decide +kernel)) ggX4_set_X4_isSet
set_option maxRecDepth 20000 in
theorem ggX4_set_X0_numbers : GoodIn wsX4_set wsX0_numbers := goodIn_r _ [16, 17, 75, 76, 77, 78, 79, 80, 81] (by decide +kernel) (by decide +kernel)
set_option maxRecDepth 20000 in
theorem gX4_set_X0_numbers : GoodIn wsX4_set (wsV RX4 99 RX0 yX0_numbers wsX0_numbers) := goodIn_app (goodIn_of _ (by decide +kernel)) ggX4_set_X0_numbers
set_option maxRecDepth 20000 in
theorem ggX4_set_X0_boats : GoodIn wsX4_set wsX0_boats := goodIn_r _ [21, 22, 23, 24, 15, 25, 17, 26, 75, 76, 77, 78, 79, 80, 81] (by decide +kernel) (by decide +kernel)
set_option maxRecDepth 20000 in
theorem gX4_set_X0_boats : GoodIn wsX4_set (wsV RX4 70 RX0 yX0_boats wsX0_boats) := goodIn_app (goodIn_of _ (by decide +kernel)) ggX4_set_X0_boats
set_option maxRecDepth 20000 in
theorem ggX4_set_X0_units : GoodIn wsX4_set wsX0_units := goodIn_r _ [30, 26, 31, 32, 33, 15, 34, 17, 35, 75, 76, 77, 78, 79, 80, 81] (by decide +kernel) (by decide +kernel)
set_option maxRecDepth 20000 in
theorem gX4_set_X0_units : GoodIn wsX4_set (wsV RX4 147 RX0 yX0_units wsX0_units) := goodIn_app (goodIn_of _ (by decide +kernel)) ggX4_set_X0_units
set_option maxRecDepth 20000 in
theorem ggX4_set_X0_allRuns : GoodIn wsX4_set wsX0_allRuns := goodIn_r _ [39, 35, 75, 76, 77, 78, 79, 80, 81] (by decide +kernel) (by decide +kernel)
set_option maxRecDepth 20000 in
theorem gX4_set_X0_allRuns : GoodIn wsX4_set (wsV RX4 153 RX0 yX0_allRuns wsX0_allRuns) := goodIn_app (goodIn_of _ (by decide +kernel)) ggX4_set_X0_allRuns
set_option maxRecDepth 20000 in
theorem ggX4_set_X0_numberAt : GoodIn wsX4_set wsX0_numberAt := goodIn_r _ [43, 44, 45, 46, 47, 48, 49, 50, 51, 52, 53, 15, 54, 75, 76, 77, 78, 79, 80, 81] (by decide +kernel) (by decide +kernel)
set_option maxRecDepth 20000 in
theorem gX4_set_X0_numberAt : GoodIn wsX4_set (wsV RX4 156 RX0 yX0_numberAt wsX0_numberAt) := goodIn_app (goodIn_of _ (by decide +kernel)) ggX4_set_X0_numberAt
set_option maxRecDepth 20000 in
theorem ggX4_set_X0_bestUnits : GoodIn wsX4_set wsX0_bestUnits := goodIn_r _ [58, 59, 60, 61, 15, 62, 63, 64, 65, 66, 17, 35, 31, 32, 33, 34, 75, 76, 77, 78, 79, 80, 81] (by decide +kernel) (by decide +kernel)
set_option maxRecDepth 20000 in
theorem gX4_set_X0_bestUnits : GoodIn wsX4_set (wsV RX4 159 RX0 yX0_bestUnits wsX0_bestUnits) := goodIn_app (goodIn_of _ (by decide +kernel)) ggX4_set_X0_bestUnits
theorem dX4_set_0 : decode cX4_set 0 = .ok (.aload_n 0, 1) := by decide +kernel
theorem dX4_set_1 : decode cX4_set 1 = .ok (.iload_n 1, 1) := by decide +kernel
theorem dX4_set_2 : decode cX4_set 2 = .ok (.invokevirtual 56, 3) := by decide +kernel
theorem dX4_set_5 : decode cX4_set 5 = .ok (.ifCond .ne 5, 3) := by decide +kernel
theorem dX4_set_8 : decode cX4_set 8 = .ok (.iconst (-1), 1) := by decide +kernel
theorem dX4_set_9 : decode cX4_set 9 = .ok (.ireturn, 1) := by decide +kernel
theorem dX4_set_10 : decode cX4_set 10 = .ok (.aload_n 0, 1) := by decide +kernel
theorem dX4_set_11 : decode cX4_set 11 = .ok (.getfield 10, 3) := by decide +kernel
theorem dX4_set_14 : decode cX4_set 14 = .ok (.getfield 60, 3) := by decide +kernel
theorem dX4_set_17 : decode cX4_set 17 = .ok (.iload_n 1, 1) := by decide +kernel
theorem dX4_set_18 : decode cX4_set 18 = .ok (.aaload, 1) := by decide +kernel
theorem dX4_set_19 : decode cX4_set 19 = .ok (.astore_n 3, 1) := by decide +kernel
theorem dX4_set_20 : decode cX4_set 20 = .ok (.iload_n 2, 1) := by decide +kernel
theorem dX4_set_21 : decode cX4_set 21 = .ok (.tableswitch 120 0 9 #[55, 60, 65, 70, 75, 88, 93, 98, 104, 115], 55) := by decide +kernel
theorem dX4_set_76 : decode cX4_set 76 = .ok (.aload_n 3, 1) := by decide +kernel
theorem dX4_set_77 : decode cX4_set 77 = .ok (.invokevirtual 99, 3) := by decide +kernel
theorem dX4_set_80 : decode cX4_set 80 = .ok (.ireturn, 1) := by decide +kernel
theorem dX4_set_81 : decode cX4_set 81 = .ok (.aload_n 3, 1) := by decide +kernel
theorem dX4_set_82 : decode cX4_set 82 = .ok (.invokevirtual 70, 3) := by decide +kernel
theorem dX4_set_85 : decode cX4_set 85 = .ok (.ireturn, 1) := by decide +kernel
theorem dX4_set_86 : decode cX4_set 86 = .ok (.aload_n 3, 1) := by decide +kernel
theorem dX4_set_87 : decode cX4_set 87 = .ok (.invokevirtual 147, 3) := by decide +kernel
theorem dX4_set_90 : decode cX4_set 90 = .ok (.ireturn, 1) := by decide +kernel
theorem dX4_set_91 : decode cX4_set 91 = .ok (.aload_n 3, 1) := by decide +kernel
theorem dX4_set_92 : decode cX4_set 92 = .ok (.getfield 64, 3) := by decide +kernel
theorem dX4_set_95 : decode cX4_set 95 = .ok (.ireturn, 1) := by decide +kernel
theorem dX4_set_96 : decode cX4_set 96 = .ok (.aload_n 3, 1) := by decide +kernel
theorem dX4_set_97 : decode cX4_set 97 = .ok (.getfield 67, 3) := by decide +kernel
theorem dX4_set_100 : decode cX4_set 100 = .ok (.ifCond .eq 7, 3) := by decide +kernel
theorem dX4_set_103 : decode cX4_set 103 = .ok (.iconst 1, 1) := by decide +kernel
theorem dX4_set_104 : decode cX4_set 104 = .ok (.goto 4, 3) := by decide +kernel
theorem dX4_set_107 : decode cX4_set 107 = .ok (.iconst 0, 1) := by decide +kernel
theorem dX4_set_108 : decode cX4_set 108 = .ok (.ireturn, 1) := by decide +kernel
theorem dX4_set_109 : decode cX4_set 109 = .ok (.aload_n 3, 1) := by decide +kernel
theorem dX4_set_110 : decode cX4_set 110 = .ok (.getfield 150, 3) := by decide +kernel
theorem dX4_set_113 : decode cX4_set 113 = .ok (.ireturn, 1) := by decide +kernel
theorem dX4_set_114 : decode cX4_set 114 = .ok (.aload_n 3, 1) := by decide +kernel
theorem dX4_set_115 : decode cX4_set 115 = .ok (.invokevirtual 153, 3) := by decide +kernel
theorem dX4_set_118 : decode cX4_set 118 = .ok (.ireturn, 1) := by decide +kernel
theorem dX4_set_119 : decode cX4_set 119 = .ok (.aload_n 3, 1) := by decide +kernel
theorem dX4_set_120 : decode cX4_set 120 = .ok (.iconst 0, 1) := by decide +kernel
theorem dX4_set_121 : decode cX4_set 121 = .ok (.invokevirtual 156, 3) := by decide +kernel
theorem dX4_set_124 : decode cX4_set 124 = .ok (.ireturn, 1) := by decide +kernel
theorem dX4_set_125 : decode cX4_set 125 = .ok (.aload_n 3, 1) := by decide +kernel
theorem dX4_set_126 : decode cX4_set 126 = .ok (.aload_n 3, 1) := by decide +kernel
theorem dX4_set_127 : decode cX4_set 127 = .ok (.invokevirtual 99, 3) := by decide +kernel
theorem dX4_set_130 : decode cX4_set 130 = .ok (.iconst 1, 1) := by decide +kernel
theorem dX4_set_131 : decode cX4_set 131 = .ok (.isub, 1) := by decide +kernel
theorem dX4_set_132 : decode cX4_set 132 = .ok (.invokevirtual 156, 3) := by decide +kernel
theorem dX4_set_135 : decode cX4_set 135 = .ok (.ireturn, 1) := by decide +kernel
theorem dX4_set_136 : decode cX4_set 136 = .ok (.aload_n 3, 1) := by decide +kernel
theorem dX4_set_137 : decode cX4_set 137 = .ok (.invokevirtual 159, 3) := by decide +kernel
theorem dX4_set_140 : decode cX4_set 140 = .ok (.ireturn, 1) := by decide +kernel
theorem dX4_set_141 : decode cX4_set 141 = .ok (.bipush (-2), 2) := by decide +kernel
theorem dX4_set_143 : decode cX4_set 143 = .ok (.ireturn, 1) := by decide +kernel
set_option maxRecDepth 20000 in
theorem ggX4_boat_X4_isSet : GoodIn wsX4_boat wsX4_isSet := goodIn_r _ [10, 1, 11, 34, 35, 36, 37, 38, 39, 40, 41] (by decide +kernel) (by decide +kernel)
set_option maxRecDepth 20000 in
theorem gX4_boat_X4_isSet : GoodIn wsX4_boat (wsV RX4 56 RX4 yX4_isSet wsX4_isSet) := goodIn_app (goodIn_of _ (by decide +kernel)) ggX4_boat_X4_isSet
set_option maxRecDepth 20000 in
theorem ggX4_boat_X0_unitsAs : GoodIn wsX4_boat wsX0_unitsAs := goodIn_r _ [16, 17, 18, 42, 43, 44, 45, 46, 47, 48] (by decide +kernel) (by decide +kernel)
set_option maxRecDepth 20000 in
theorem gX4_boat_X0_unitsAs : GoodIn wsX4_boat (wsV RX4 165 RX0 yX0_unitsAs wsX0_unitsAs) := goodIn_app (goodIn_of _ (by decide +kernel)) ggX4_boat_X0_unitsAs
set_option maxRecDepth 20000 in
theorem ggX4_boat_X0_bestKind : GoodIn wsX4_boat wsX0_bestKind := goodIn_r _ [22, 23, 24, 25, 15, 26, 17, 18, 27, 13, 14, 16, 42, 43, 44, 45, 46, 47, 48] (by decide +kernel) (by decide +kernel)
set_option maxRecDepth 20000 in
theorem gX4_boat_X0_bestKind : GoodIn wsX4_boat (wsV RX4 168 RX0 yX0_bestKind wsX0_bestKind) := goodIn_app (goodIn_of _ (by decide +kernel)) ggX4_boat_X0_bestKind
set_option maxRecDepth 20000 in
theorem ggX4_boat_X0_tollToBest : GoodIn wsX4_boat wsX0_tollToBest := goodIn_r _ [31, 32, 33, 20, 21, 15, 22, 23, 24, 25, 26, 17, 18, 27, 13, 14, 16, 42, 43, 44, 45, 46, 47, 48] (by decide +kernel) (by decide +kernel)
set_option maxRecDepth 20000 in
theorem gX4_boat_X0_tollToBest : GoodIn wsX4_boat (wsV RX4 171 RX0 yX0_tollToBest wsX0_tollToBest) := goodIn_app (goodIn_of _ (by decide +kernel)) ggX4_boat_X0_tollToBest
theorem dX4_boat_0 : decode cX4_boat 0 = .ok (.aload_n 0, 1) := by decide +kernel
theorem dX4_boat_1 : decode cX4_boat 1 = .ok (.iload_n 1, 1) := by decide +kernel
theorem dX4_boat_2 : decode cX4_boat 2 = .ok (.invokevirtual 56, 3) := by decide +kernel
theorem dX4_boat_5 : decode cX4_boat 5 = .ok (.ifCond .ne 5, 3) := by decide +kernel
theorem dX4_boat_8 : decode cX4_boat 8 = .ok (.iconst (-1), 1) := by decide +kernel
theorem dX4_boat_9 : decode cX4_boat 9 = .ok (.ireturn, 1) := by decide +kernel
theorem dX4_boat_10 : decode cX4_boat 10 = .ok (.iload_n 2, 1) := by decide +kernel
theorem dX4_boat_11 : decode cX4_boat 11 = .ok (.ifCond .lt 18, 3) := by decide +kernel
theorem dX4_boat_14 : decode cX4_boat 14 = .ok (.iload_n 2, 1) := by decide +kernel
theorem dX4_boat_15 : decode cX4_boat 15 = .ok (.bipush 8, 2) := by decide +kernel
theorem dX4_boat_17 : decode cX4_boat 17 = .ok (.if_icmp .ge 12, 3) := by decide +kernel
theorem dX4_boat_20 : decode cX4_boat 20 = .ok (.iload_n 3, 1) := by decide +kernel
theorem dX4_boat_21 : decode cX4_boat 21 = .ok (.ifCond .lt 8, 3) := by decide +kernel
theorem dX4_boat_24 : decode cX4_boat 24 = .ok (.iload_n 3, 1) := by decide +kernel
theorem dX4_boat_25 : decode cX4_boat 25 = .ok (.iconst 5, 1) := by decide +kernel
theorem dX4_boat_26 : decode cX4_boat 26 = .ok (.if_icmp .le 6, 3) := by decide +kernel
theorem dX4_boat_29 : decode cX4_boat 29 = .ok (.bipush (-2), 2) := by decide +kernel
theorem dX4_boat_31 : decode cX4_boat 31 = .ok (.ireturn, 1) := by decide +kernel
theorem dX4_boat_32 : decode cX4_boat 32 = .ok (.aload_n 0, 1) := by decide +kernel
theorem dX4_boat_33 : decode cX4_boat 33 = .ok (.getfield 10, 3) := by decide +kernel
theorem dX4_boat_36 : decode cX4_boat 36 = .ok (.getfield 60, 3) := by decide +kernel
theorem dX4_boat_39 : decode cX4_boat 39 = .ok (.iload_n 1, 1) := by decide +kernel
theorem dX4_boat_40 : decode cX4_boat 40 = .ok (.aaload, 1) := by decide +kernel
theorem dX4_boat_41 : decode cX4_boat 41 = .ok (.astore 4, 2) := by decide +kernel
theorem dX4_boat_43 : decode cX4_boat 43 = .ok (.aload 4, 2) := by decide +kernel
theorem dX4_boat_45 : decode cX4_boat 45 = .ok (.getfield 85, 3) := by decide +kernel
theorem dX4_boat_48 : decode cX4_boat 48 = .ok (.iload_n 2, 1) := by decide +kernel
theorem dX4_boat_49 : decode cX4_boat 49 = .ok (.iaload, 1) := by decide +kernel
theorem dX4_boat_50 : decode cX4_boat 50 = .ok (.ifCond .ne 6, 3) := by decide +kernel
theorem dX4_boat_53 : decode cX4_boat 53 = .ok (.bipush (-5), 2) := by decide +kernel
theorem dX4_boat_55 : decode cX4_boat 55 = .ok (.ireturn, 1) := by decide +kernel
theorem dX4_boat_56 : decode cX4_boat 56 = .ok (.iload_n 3, 1) := by decide +kernel
theorem dX4_boat_57 : decode cX4_boat 57 = .ok (.tableswitch 80 0 4 #[35, 43, 51, 59, 73], 35) := by decide +kernel
theorem dX4_boat_92 : decode cX4_boat 92 = .ok (.aload 4, 2) := by decide +kernel
theorem dX4_boat_94 : decode cX4_boat 94 = .ok (.getfield 81, 3) := by decide +kernel
theorem dX4_boat_97 : decode cX4_boat 97 = .ok (.iload_n 2, 1) := by decide +kernel
theorem dX4_boat_98 : decode cX4_boat 98 = .ok (.iaload, 1) := by decide +kernel
theorem dX4_boat_99 : decode cX4_boat 99 = .ok (.ireturn, 1) := by decide +kernel
theorem dX4_boat_100 : decode cX4_boat 100 = .ok (.aload 4, 2) := by decide +kernel
theorem dX4_boat_102 : decode cX4_boat 102 = .ok (.getfield 85, 3) := by decide +kernel
theorem dX4_boat_105 : decode cX4_boat 105 = .ok (.iload_n 2, 1) := by decide +kernel
theorem dX4_boat_106 : decode cX4_boat 106 = .ok (.iaload, 1) := by decide +kernel
theorem dX4_boat_107 : decode cX4_boat 107 = .ok (.ireturn, 1) := by decide +kernel
theorem dX4_boat_108 : decode cX4_boat 108 = .ok (.aload 4, 2) := by decide +kernel
theorem dX4_boat_110 : decode cX4_boat 110 = .ok (.getfield 162, 3) := by decide +kernel
theorem dX4_boat_113 : decode cX4_boat 113 = .ok (.iload_n 2, 1) := by decide +kernel
theorem dX4_boat_114 : decode cX4_boat 114 = .ok (.iaload, 1) := by decide +kernel
theorem dX4_boat_115 : decode cX4_boat 115 = .ok (.ireturn, 1) := by decide +kernel
theorem dX4_boat_116 : decode cX4_boat 116 = .ok (.aload 4, 2) := by decide +kernel
theorem dX4_boat_118 : decode cX4_boat 118 = .ok (.iload_n 2, 1) := by decide +kernel
theorem dX4_boat_119 : decode cX4_boat 119 = .ok (.aload 4, 2) := by decide +kernel
theorem dX4_boat_121 : decode cX4_boat 121 = .ok (.getfield 81, 3) := by decide +kernel
theorem dX4_boat_124 : decode cX4_boat 124 = .ok (.iload_n 2, 1) := by decide +kernel
theorem dX4_boat_125 : decode cX4_boat 125 = .ok (.iaload, 1) := by decide +kernel
theorem dX4_boat_126 : decode cX4_boat 126 = .ok (.invokevirtual 165, 3) := by decide +kernel
theorem dX4_boat_129 : decode cX4_boat 129 = .ok (.ireturn, 1) := by decide +kernel
theorem dX4_boat_130 : decode cX4_boat 130 = .ok (.aload 4, 2) := by decide +kernel
theorem dX4_boat_132 : decode cX4_boat 132 = .ok (.iload_n 2, 1) := by decide +kernel
theorem dX4_boat_133 : decode cX4_boat 133 = .ok (.invokevirtual 168, 3) := by decide +kernel
theorem dX4_boat_136 : decode cX4_boat 136 = .ok (.ireturn, 1) := by decide +kernel
theorem dX4_boat_137 : decode cX4_boat 137 = .ok (.aload 4, 2) := by decide +kernel
theorem dX4_boat_139 : decode cX4_boat 139 = .ok (.iload_n 2, 1) := by decide +kernel
theorem dX4_boat_140 : decode cX4_boat 140 = .ok (.invokevirtual 171, 3) := by decide +kernel
theorem dX4_boat_143 : decode cX4_boat 143 = .ok (.ireturn, 1) := by decide +kernel
set_option maxRecDepth 20000 in
theorem ggX4_rank_X4_isSet : GoodIn wsX4_rank wsX4_isSet := goodIn_r _ [7, 1, 8, 25, 26, 27, 28, 29, 30, 31, 32] (by decide +kernel) (by decide +kernel)
set_option maxRecDepth 20000 in
theorem gX4_rank_X4_isSet : GoodIn wsX4_rank (wsV RX4 56 RX4 yX4_isSet wsX4_isSet) := goodIn_app (goodIn_of _ (by decide +kernel)) ggX4_rank_X4_isSet
set_option maxRecDepth 20000 in
theorem ggX4_rank_X4_isNumber : GoodIn wsX4_rank wsX4_isNumber := goodIn_r _ [11] (by decide +kernel) (by decide +kernel)
set_option maxRecDepth 20000 in
theorem gX4_rank_X4_isNumber : GoodIn wsX4_rank (va_wsS RX4 141 yX4_isNumber wsX4_isNumber) := goodIn_app (goodIn_of _ (by decide +kernel)) ggX4_rank_X4_isNumber
set_option maxRecDepth 20000 in
theorem ggX4_rank_X0_numbersBelow : GoodIn wsX4_rank wsX0_numbersBelow := goodIn_r _ [16, 17, 10, 6, 11, 18, 19, 20, 21, 22, 23, 24, 33, 34, 35, 36, 37, 38, 39] (by decide +kernel) (by decide +kernel)
set_option maxRecDepth 20000 in
theorem gX4_rank_X0_numbersBelow : GoodIn wsX4_rank (wsV RX4 174 RX0 yX0_numbersBelow wsX0_numbersBelow) := goodIn_app (goodIn_of _ (by decide +kernel)) ggX4_rank_X0_numbersBelow
theorem dX4_rank_0 : decode cX4_rank 0 = .ok (.aload_n 0, 1) := by decide +kernel
theorem dX4_rank_1 : decode cX4_rank 1 = .ok (.iload_n 1, 1) := by decide +kernel
theorem dX4_rank_2 : decode cX4_rank 2 = .ok (.invokevirtual 56, 3) := by decide +kernel
theorem dX4_rank_5 : decode cX4_rank 5 = .ok (.ifCond .ne 5, 3) := by decide +kernel
theorem dX4_rank_8 : decode cX4_rank 8 = .ok (.iconst (-1), 1) := by decide +kernel
theorem dX4_rank_9 : decode cX4_rank 9 = .ok (.ireturn, 1) := by decide +kernel
theorem dX4_rank_10 : decode cX4_rank 10 = .ok (.iload_n 2, 1) := by decide +kernel
theorem dX4_rank_11 : decode cX4_rank 11 = .ok (.invokestatic 141, 3) := by decide +kernel
theorem dX4_rank_14 : decode cX4_rank 14 = .ok (.ifCond .ne 6, 3) := by decide +kernel
theorem dX4_rank_17 : decode cX4_rank 17 = .ok (.bipush (-2), 2) := by decide +kernel
theorem dX4_rank_19 : decode cX4_rank 19 = .ok (.ireturn, 1) := by decide +kernel
theorem dX4_rank_20 : decode cX4_rank 20 = .ok (.aload_n 0, 1) := by decide +kernel
theorem dX4_rank_21 : decode cX4_rank 21 = .ok (.getfield 10, 3) := by decide +kernel
theorem dX4_rank_24 : decode cX4_rank 24 = .ok (.getfield 60, 3) := by decide +kernel
theorem dX4_rank_27 : decode cX4_rank 27 = .ok (.iload_n 1, 1) := by decide +kernel
theorem dX4_rank_28 : decode cX4_rank 28 = .ok (.aaload, 1) := by decide +kernel
theorem dX4_rank_29 : decode cX4_rank 29 = .ok (.iload_n 2, 1) := by decide +kernel
theorem dX4_rank_30 : decode cX4_rank 30 = .ok (.invokevirtual 174, 3) := by decide +kernel
theorem dX4_rank_33 : decode cX4_rank 33 = .ok (.ireturn, 1) := by decide +kernel
set_option maxRecDepth 20000 in
theorem ggX4_at_X4_isSet : GoodIn wsX4_at wsX4_isSet := goodIn_r _ [7, 1, 8, 25, 26, 27, 28, 29, 30, 31, 32] (by decide +kernel) (by decide +kernel)
set_option maxRecDepth 20000 in
theorem gX4_at_X4_isSet : GoodIn wsX4_at (wsV RX4 56 RX4 yX4_isSet wsX4_isSet) := goodIn_app (goodIn_of _ (by decide +kernel)) ggX4_at_X4_isSet
set_option maxRecDepth 20000 in
theorem ggX4_at_X0_numberAt : GoodIn wsX4_at wsX0_numberAt := goodIn_r _ [13, 14, 15, 16, 17, 18, 19, 20, 21, 22, 23, 12, 24, 33, 34, 35, 36, 37, 38, 39] (by decide +kernel) (by decide +kernel)
set_option maxRecDepth 20000 in
theorem gX4_at_X0_numberAt : GoodIn wsX4_at (wsV RX4 156 RX0 yX0_numberAt wsX0_numberAt) := goodIn_app (goodIn_of _ (by decide +kernel)) ggX4_at_X0_numberAt
theorem dX4_at_0 : decode cX4_at 0 = .ok (.aload_n 0, 1) := by decide +kernel
theorem dX4_at_1 : decode cX4_at 1 = .ok (.iload_n 1, 1) := by decide +kernel
theorem dX4_at_2 : decode cX4_at 2 = .ok (.invokevirtual 56, 3) := by decide +kernel
theorem dX4_at_5 : decode cX4_at 5 = .ok (.ifCond .ne 5, 3) := by decide +kernel
theorem dX4_at_8 : decode cX4_at 8 = .ok (.iconst (-1), 1) := by decide +kernel
theorem dX4_at_9 : decode cX4_at 9 = .ok (.ireturn, 1) := by decide +kernel
theorem dX4_at_10 : decode cX4_at 10 = .ok (.iload_n 2, 1) := by decide +kernel
theorem dX4_at_11 : decode cX4_at 11 = .ok (.ifCond .ge 6, 3) := by decide +kernel
theorem dX4_at_14 : decode cX4_at 14 = .ok (.bipush (-2), 2) := by decide +kernel
theorem dX4_at_16 : decode cX4_at 16 = .ok (.ireturn, 1) := by decide +kernel
theorem dX4_at_17 : decode cX4_at 17 = .ok (.aload_n 0, 1) := by decide +kernel
theorem dX4_at_18 : decode cX4_at 18 = .ok (.getfield 10, 3) := by decide +kernel
theorem dX4_at_21 : decode cX4_at 21 = .ok (.getfield 60, 3) := by decide +kernel
theorem dX4_at_24 : decode cX4_at 24 = .ok (.iload_n 1, 1) := by decide +kernel
theorem dX4_at_25 : decode cX4_at 25 = .ok (.aaload, 1) := by decide +kernel
theorem dX4_at_26 : decode cX4_at 26 = .ok (.iload_n 2, 1) := by decide +kernel
theorem dX4_at_27 : decode cX4_at 27 = .ok (.invokevirtual 156, 3) := by decide +kernel
theorem dX4_at_30 : decode cX4_at 30 = .ok (.ireturn, 1) := by decide +kernel
set_option maxRecDepth 20000 in
theorem ggX4_next_X4_isSet : GoodIn wsX4_next wsX4_isSet := goodIn_r _ [7, 1, 8, 36, 37, 38, 39, 40, 41, 42, 43] (by decide +kernel) (by decide +kernel)
set_option maxRecDepth 20000 in
theorem gX4_next_X4_isSet : GoodIn wsX4_next (wsV RX4 56 RX4 yX4_isSet wsX4_isSet) := goodIn_app (goodIn_of _ (by decide +kernel)) ggX4_next_X4_isSet
set_option maxRecDepth 20000 in
theorem ggX4_next_X4_isNumber : GoodIn wsX4_next wsX4_isNumber := goodIn_r _ [11] (by decide +kernel) (by decide +kernel)
set_option maxRecDepth 20000 in
theorem gX4_next_X4_isNumber : GoodIn wsX4_next (va_wsS RX4 141 yX4_isNumber wsX4_isNumber) := goodIn_app (goodIn_of _ (by decide +kernel)) ggX4_next_X4_isNumber
set_option maxRecDepth 20000 in
theorem ggX4_next_X0_firstFrom : GoodIn wsX4_next wsX0_firstFrom := goodIn_r _ [16, 17, 18, 19, 15, 20, 21, 10, 6, 11, 22, 23, 24, 25, 26, 27, 28, 29, 30, 31, 32, 33, 34, 35, 44, 45, 46, 47, 48, 49, 50] (by decide +kernel) (by decide +kernel)
set_option maxRecDepth 20000 in
theorem gX4_next_X0_firstFrom : GoodIn wsX4_next (wsV RX4 177 RX0 yX0_firstFrom wsX0_firstFrom) := goodIn_app (goodIn_of _ (by decide +kernel)) ggX4_next_X0_firstFrom
theorem dX4_next_0 : decode cX4_next 0 = .ok (.aload_n 0, 1) := by decide +kernel
theorem dX4_next_1 : decode cX4_next 1 = .ok (.iload_n 1, 1) := by decide +kernel
theorem dX4_next_2 : decode cX4_next 2 = .ok (.invokevirtual 56, 3) := by decide +kernel
theorem dX4_next_5 : decode cX4_next 5 = .ok (.ifCond .ne 5, 3) := by decide +kernel
theorem dX4_next_8 : decode cX4_next 8 = .ok (.iconst (-1), 1) := by decide +kernel
theorem dX4_next_9 : decode cX4_next 9 = .ok (.ireturn, 1) := by decide +kernel
theorem dX4_next_10 : decode cX4_next 10 = .ok (.iload_n 2, 1) := by decide +kernel
theorem dX4_next_11 : decode cX4_next 11 = .ok (.invokestatic 141, 3) := by decide +kernel
theorem dX4_next_14 : decode cX4_next 14 = .ok (.ifCond .ne 6, 3) := by decide +kernel
theorem dX4_next_17 : decode cX4_next 17 = .ok (.bipush (-2), 2) := by decide +kernel
theorem dX4_next_19 : decode cX4_next 19 = .ok (.ireturn, 1) := by decide +kernel
theorem dX4_next_20 : decode cX4_next 20 = .ok (.aload_n 0, 1) := by decide +kernel
theorem dX4_next_21 : decode cX4_next 21 = .ok (.getfield 10, 3) := by decide +kernel
theorem dX4_next_24 : decode cX4_next 24 = .ok (.getfield 60, 3) := by decide +kernel
theorem dX4_next_27 : decode cX4_next 27 = .ok (.iload_n 1, 1) := by decide +kernel
theorem dX4_next_28 : decode cX4_next 28 = .ok (.aaload, 1) := by decide +kernel
theorem dX4_next_29 : decode cX4_next 29 = .ok (.iload_n 2, 1) := by decide +kernel
theorem dX4_next_30 : decode cX4_next 30 = .ok (.invokevirtual 177, 3) := by decide +kernel
theorem dX4_next_33 : decode cX4_next 33 = .ok (.ireturn, 1) := by decide +kernel
set_option maxRecDepth 20000 in
theorem ggX4_nearest_X4_isSet : GoodIn wsX4_nearest wsX4_isSet := goodIn_r _ [7, 1, 8, 38, 39, 40, 41, 42, 43, 44, 45] (by decide +kernel) (by decide +kernel)
set_option maxRecDepth 20000 in
theorem gX4_nearest_X4_isSet : GoodIn wsX4_nearest (wsV RX4 56 RX4 yX4_isSet wsX4_isSet) := goodIn_app (goodIn_of _ (by decide +kernel)) ggX4_nearest_X4_isSet
set_option maxRecDepth 20000 in
theorem ggX4_nearest_X4_isNumber : GoodIn wsX4_nearest wsX4_isNumber := goodIn_r _ [11] (by decide +kernel) (by decide +kernel)
set_option maxRecDepth 20000 in
theorem gX4_nearest_X4_isNumber : GoodIn wsX4_nearest (va_wsS RX4 141 yX4_isNumber wsX4_isNumber) := goodIn_app (goodIn_of _ (by decide +kernel)) ggX4_nearest_X4_isNumber
set_option maxRecDepth 20000 in
theorem ggX4_nearest_X0_numbersBelow : GoodIn wsX4_nearest wsX0_numbersBelow := goodIn_r _ [16, 17, 10, 6, 11, 18, 19, 20, 21, 22, 23, 24, 46, 47, 48, 49, 50, 51, 52] (by decide +kernel) (by decide +kernel)
set_option maxRecDepth 20000 in
theorem gX4_nearest_X0_numbersBelow : GoodIn wsX4_nearest (wsV RX4 174 RX0 yX0_numbersBelow wsX0_numbersBelow) := goodIn_app (goodIn_of _ (by decide +kernel)) ggX4_nearest_X0_numbersBelow
set_option maxRecDepth 20000 in
theorem ggX4_nearest_X0_numberAt : GoodIn wsX4_nearest wsX0_numberAt := goodIn_r _ [28, 17, 18, 19, 20, 21, 22, 23, 24, 29, 30, 15, 31, 46, 47, 48, 49, 50, 51, 52] (by decide +kernel) (by decide +kernel)
set_option maxRecDepth 20000 in
theorem gX4_nearest_X0_numberAt : GoodIn wsX4_nearest (wsV RX4 156 RX0 yX0_numberAt wsX0_numberAt) := goodIn_app (goodIn_of _ (by decide +kernel)) ggX4_nearest_X0_numberAt
set_option maxRecDepth 20000 in
theorem ggX4_nearest_X0_firstFrom : GoodIn wsX4_nearest wsX0_firstFrom := goodIn_r _ [35, 36, 13, 14, 15, 16, 17, 10, 6, 11, 18, 19, 20, 21, 22, 23, 24, 37, 26, 27, 28, 29, 30, 31, 46, 47, 48, 49, 50, 51, 52] (by decide +kernel) (by decide +kernel)
set_option maxRecDepth 20000 in
theorem gX4_nearest_X0_firstFrom : GoodIn wsX4_nearest (wsV RX4 177 RX0 yX0_firstFrom wsX0_firstFrom) := goodIn_app (goodIn_of _ (by decide +kernel)) ggX4_nearest_X0_firstFrom
theorem dX4_nearest_0 : decode cX4_nearest 0 = .ok (.aload_n 0, 1) := by decide +kernel
theorem dX4_nearest_1 : decode cX4_nearest 1 = .ok (.iload_n 1, 1) := by decide +kernel
theorem dX4_nearest_2 : decode cX4_nearest 2 = .ok (.invokevirtual 56, 3) := by decide +kernel
theorem dX4_nearest_5 : decode cX4_nearest 5 = .ok (.ifCond .ne 5, 3) := by decide +kernel
theorem dX4_nearest_8 : decode cX4_nearest 8 = .ok (.iconst (-1), 1) := by decide +kernel
theorem dX4_nearest_9 : decode cX4_nearest 9 = .ok (.ireturn, 1) := by decide +kernel
theorem dX4_nearest_10 : decode cX4_nearest 10 = .ok (.iload_n 2, 1) := by decide +kernel
theorem dX4_nearest_11 : decode cX4_nearest 11 = .ok (.invokestatic 141, 3) := by decide +kernel
theorem dX4_nearest_14 : decode cX4_nearest 14 = .ok (.ifCond .ne 6, 3) := by decide +kernel
theorem dX4_nearest_17 : decode cX4_nearest 17 = .ok (.bipush (-2), 2) := by decide +kernel
theorem dX4_nearest_19 : decode cX4_nearest 19 = .ok (.ireturn, 1) := by decide +kernel
theorem dX4_nearest_20 : decode cX4_nearest 20 = .ok (.aload_n 0, 1) := by decide +kernel
theorem dX4_nearest_21 : decode cX4_nearest 21 = .ok (.getfield 10, 3) := by decide +kernel
theorem dX4_nearest_24 : decode cX4_nearest 24 = .ok (.getfield 60, 3) := by decide +kernel
theorem dX4_nearest_27 : decode cX4_nearest 27 = .ok (.iload_n 1, 1) := by decide +kernel
theorem dX4_nearest_28 : decode cX4_nearest 28 = .ok (.aaload, 1) := by decide +kernel
theorem dX4_nearest_29 : decode cX4_nearest 29 = .ok (.astore_n 3, 1) := by decide +kernel
theorem dX4_nearest_30 : decode cX4_nearest 30 = .ok (.aload_n 3, 1) := by decide +kernel
theorem dX4_nearest_31 : decode cX4_nearest 31 = .ok (.aload_n 3, 1) := by decide +kernel
theorem dX4_nearest_32 : decode cX4_nearest 32 = .ok (.iload_n 2, 1) := by decide +kernel
theorem dX4_nearest_33 : decode cX4_nearest 33 = .ok (.invokevirtual 174, 3) := by decide +kernel
theorem dX4_nearest_36 : decode cX4_nearest 36 = .ok (.iconst 1, 1) := by decide +kernel
theorem dX4_nearest_37 : decode cX4_nearest 37 = .ok (.isub, 1) := by decide +kernel
theorem dX4_nearest_38 : decode cX4_nearest 38 = .ok (.invokevirtual 156, 3) := by decide +kernel
theorem dX4_nearest_41 : decode cX4_nearest 41 = .ok (.istore 4, 2) := by decide +kernel
theorem dX4_nearest_43 : decode cX4_nearest 43 = .ok (.aload_n 3, 1) := by decide +kernel
theorem dX4_nearest_44 : decode cX4_nearest 44 = .ok (.iload_n 2, 1) := by decide +kernel
theorem dX4_nearest_45 : decode cX4_nearest 45 = .ok (.invokevirtual 177, 3) := by decide +kernel
theorem dX4_nearest_48 : decode cX4_nearest 48 = .ok (.istore 5, 2) := by decide +kernel
theorem dX4_nearest_50 : decode cX4_nearest 50 = .ok (.iload 4, 2) := by decide +kernel
theorem dX4_nearest_52 : decode cX4_nearest 52 = .ok (.bipush (-5), 2) := by decide +kernel
theorem dX4_nearest_54 : decode cX4_nearest 54 = .ok (.if_icmp .ne 6, 3) := by decide +kernel
theorem dX4_nearest_57 : decode cX4_nearest 57 = .ok (.iload 5, 2) := by decide +kernel
theorem dX4_nearest_59 : decode cX4_nearest 59 = .ok (.ireturn, 1) := by decide +kernel
theorem dX4_nearest_60 : decode cX4_nearest 60 = .ok (.iload 5, 2) := by decide +kernel
theorem dX4_nearest_62 : decode cX4_nearest 62 = .ok (.bipush (-5), 2) := by decide +kernel
theorem dX4_nearest_64 : decode cX4_nearest 64 = .ok (.if_icmp .ne 6, 3) := by decide +kernel
theorem dX4_nearest_67 : decode cX4_nearest 67 = .ok (.iload 4, 2) := by decide +kernel
theorem dX4_nearest_69 : decode cX4_nearest 69 = .ok (.ireturn, 1) := by decide +kernel
theorem dX4_nearest_70 : decode cX4_nearest 70 = .ok (.iload 5, 2) := by decide +kernel
theorem dX4_nearest_72 : decode cX4_nearest 72 = .ok (.iload_n 2, 1) := by decide +kernel
theorem dX4_nearest_73 : decode cX4_nearest 73 = .ok (.isub, 1) := by decide +kernel
theorem dX4_nearest_74 : decode cX4_nearest 74 = .ok (.iload_n 2, 1) := by decide +kernel
theorem dX4_nearest_75 : decode cX4_nearest 75 = .ok (.iload 4, 2) := by decide +kernel
theorem dX4_nearest_77 : decode cX4_nearest 77 = .ok (.isub, 1) := by decide +kernel
theorem dX4_nearest_78 : decode cX4_nearest 78 = .ok (.if_icmp .ge 8, 3) := by decide +kernel
theorem dX4_nearest_81 : decode cX4_nearest 81 = .ok (.iload 5, 2) := by decide +kernel
theorem dX4_nearest_83 : decode cX4_nearest 83 = .ok (.goto 5, 3) := by decide +kernel
theorem dX4_nearest_86 : decode cX4_nearest 86 = .ok (.iload 4, 2) := by decide +kernel
theorem dX4_nearest_88 : decode cX4_nearest 88 = .ok (.ireturn, 1) := by decide +kernel
set_option maxRecDepth 20000 in
theorem ggX4_gap_X4_isSet : GoodIn wsX4_gap wsX4_isSet := goodIn_r _ [7, 1, 8, 21, 22, 23, 24, 25, 26, 27, 28] (by decide +kernel) (by decide +kernel)
set_option maxRecDepth 20000 in
theorem gX4_gap_X4_isSet : GoodIn wsX4_gap (wsV RX4 56 RX4 yX4_isSet wsX4_isSet) := goodIn_app (goodIn_of _ (by decide +kernel)) ggX4_gap_X4_isSet
set_option maxRecDepth 20000 in
theorem ggX4_gap_X0_firstGap : GoodIn wsX4_gap wsX0_firstGap := goodIn_r _ [13, 14, 15, 16, 12, 17, 18, 19, 6, 20, 29, 30, 31, 32, 33, 34, 35] (by decide +kernel) (by decide +kernel)
set_option maxRecDepth 20000 in
theorem gX4_gap_X0_firstGap : GoodIn wsX4_gap (wsV RX4 180 RX0 yX0_firstGap wsX0_firstGap) := goodIn_app (goodIn_of _ (by decide +kernel)) ggX4_gap_X0_firstGap
theorem dX4_gap_0 : decode cX4_gap 0 = .ok (.aload_n 0, 1) := by decide +kernel
theorem dX4_gap_1 : decode cX4_gap 1 = .ok (.iload_n 1, 1) := by decide +kernel
theorem dX4_gap_2 : decode cX4_gap 2 = .ok (.invokevirtual 56, 3) := by decide +kernel
theorem dX4_gap_5 : decode cX4_gap 5 = .ok (.ifCond .ne 5, 3) := by decide +kernel
theorem dX4_gap_8 : decode cX4_gap 8 = .ok (.iconst (-1), 1) := by decide +kernel
theorem dX4_gap_9 : decode cX4_gap 9 = .ok (.ireturn, 1) := by decide +kernel
theorem dX4_gap_10 : decode cX4_gap 10 = .ok (.iload_n 2, 1) := by decide +kernel
theorem dX4_gap_11 : decode cX4_gap 11 = .ok (.iconst 1, 1) := by decide +kernel
theorem dX4_gap_12 : decode cX4_gap 12 = .ok (.if_icmp .lt 10, 3) := by decide +kernel
theorem dX4_gap_15 : decode cX4_gap 15 = .ok (.iload_n 2, 1) := by decide +kernel
theorem dX4_gap_16 : decode cX4_gap 16 = .ok (.sipush 2048, 3) := by decide +kernel
theorem dX4_gap_19 : decode cX4_gap 19 = .ok (.if_icmp .le 6, 3) := by decide +kernel
theorem dX4_gap_22 : decode cX4_gap 22 = .ok (.bipush (-2), 2) := by decide +kernel
theorem dX4_gap_24 : decode cX4_gap 24 = .ok (.ireturn, 1) := by decide +kernel
theorem dX4_gap_25 : decode cX4_gap 25 = .ok (.aload_n 0, 1) := by decide +kernel
theorem dX4_gap_26 : decode cX4_gap 26 = .ok (.getfield 10, 3) := by decide +kernel
theorem dX4_gap_29 : decode cX4_gap 29 = .ok (.getfield 60, 3) := by decide +kernel
theorem dX4_gap_32 : decode cX4_gap 32 = .ok (.iload_n 1, 1) := by decide +kernel
theorem dX4_gap_33 : decode cX4_gap 33 = .ok (.aaload, 1) := by decide +kernel
theorem dX4_gap_34 : decode cX4_gap 34 = .ok (.iload_n 2, 1) := by decide +kernel
theorem dX4_gap_35 : decode cX4_gap 35 = .ok (.invokevirtual 180, 3) := by decide +kernel
theorem dX4_gap_38 : decode cX4_gap 38 = .ok (.ireturn, 1) := by decide +kernel
set_option maxRecDepth 20000 in
theorem ggX4_sizeOf_X4_isSet : GoodIn wsX4_sizeOf wsX4_isSet := goodIn_r _ [8, 1, 9, 24, 25, 26, 27, 28, 29, 30, 31] (by decide +kernel) (by decide +kernel)
set_option maxRecDepth 20000 in
theorem gX4_sizeOf_X4_isSet : GoodIn wsX4_sizeOf (wsV RX4 56 RX4 yX4_isSet wsX4_isSet) := goodIn_app (goodIn_of _ (by decide +kernel)) ggX4_sizeOf_X4_isSet
set_option maxRecDepth 20000 in
theorem ggX4_sizeOf_X4_isHow : GoodIn wsX4_sizeOf wsX4_isHow := goodIn_r _ [12] (by decide +kernel) (by decide +kernel)
set_option maxRecDepth 20000 in
theorem gX4_sizeOf_X4_isHow : GoodIn wsX4_sizeOf (va_wsS RX4 88 yX4_isHow wsX4_isHow) := goodIn_app (goodIn_of _ (by decide +kernel)) ggX4_sizeOf_X4_isHow
set_option maxRecDepth 20000 in
theorem ggX4_sizeOf_X4_join : GoodIn wsX4_sizeOf wsX4_join := goodIn_r _ [15, 16] (by decide +kernel) (by decide +kernel)
set_option maxRecDepth 20000 in
theorem gX4_sizeOf_X4_join : GoodIn wsX4_sizeOf (va_wsS RX4 187 yX4_join wsX4_join) := goodIn_app (goodIn_of _ (by decide +kernel)) ggX4_sizeOf_X4_join
set_option maxRecDepth 20000 in
theorem ggX4_sizeOf_J13_bitCount_95d88 : GoodIn wsX4_sizeOf wsJ13_bitCount_95d88 := goodIn_r _ [20, 21, 22, 23] (by decide +kernel) (by decide +kernel)
set_option maxRecDepth 20000 in
theorem gX4_sizeOf_J13_bitCount_95d88 : GoodIn wsX4_sizeOf (va_wsS RX4 191 yJ13_bitCount_95d88 wsJ13_bitCount_95d88) := goodIn_app (goodIn_of _ (by decide +kernel)) ggX4_sizeOf_J13_bitCount_95d88
theorem dX4_sizeOf_0 : decode cX4_sizeOf 0 = .ok (.aload_n 0, 1) := by decide +kernel
theorem dX4_sizeOf_1 : decode cX4_sizeOf 1 = .ok (.iload_n 2, 1) := by decide +kernel
theorem dX4_sizeOf_2 : decode cX4_sizeOf 2 = .ok (.invokevirtual 56, 3) := by decide +kernel
theorem dX4_sizeOf_5 : decode cX4_sizeOf 5 = .ok (.ifCond .eq 11, 3) := by decide +kernel
theorem dX4_sizeOf_8 : decode cX4_sizeOf 8 = .ok (.aload_n 0, 1) := by decide +kernel
theorem dX4_sizeOf_9 : decode cX4_sizeOf 9 = .ok (.iload_n 3, 1) := by decide +kernel
theorem dX4_sizeOf_10 : decode cX4_sizeOf 10 = .ok (.invokevirtual 56, 3) := by decide +kernel
theorem dX4_sizeOf_13 : decode cX4_sizeOf 13 = .ok (.ifCond .ne 5, 3) := by decide +kernel
theorem dX4_sizeOf_16 : decode cX4_sizeOf 16 = .ok (.iconst (-1), 1) := by decide +kernel
theorem dX4_sizeOf_17 : decode cX4_sizeOf 17 = .ok (.ireturn, 1) := by decide +kernel
theorem dX4_sizeOf_18 : decode cX4_sizeOf 18 = .ok (.iload_n 1, 1) := by decide +kernel
theorem dX4_sizeOf_19 : decode cX4_sizeOf 19 = .ok (.invokestatic 88, 3) := by decide +kernel
theorem dX4_sizeOf_22 : decode cX4_sizeOf 22 = .ok (.ifCond .ne 6, 3) := by decide +kernel
theorem dX4_sizeOf_25 : decode cX4_sizeOf 25 = .ok (.bipush (-2), 2) := by decide +kernel
theorem dX4_sizeOf_27 : decode cX4_sizeOf 27 = .ok (.ireturn, 1) := by decide +kernel
theorem dX4_sizeOf_28 : decode cX4_sizeOf 28 = .ok (.iconst 0, 1) := by decide +kernel
theorem dX4_sizeOf_29 : decode cX4_sizeOf 29 = .ok (.istore 4, 2) := by decide +kernel
theorem dX4_sizeOf_31 : decode cX4_sizeOf 31 = .ok (.iconst 0, 1) := by decide +kernel
theorem dX4_sizeOf_32 : decode cX4_sizeOf 32 = .ok (.istore 5, 2) := by decide +kernel
theorem dX4_sizeOf_34 : decode cX4_sizeOf 34 = .ok (.iload 5, 2) := by decide +kernel
theorem dX4_sizeOf_36 : decode cX4_sizeOf 36 = .ok (.bipush 32, 2) := by decide +kernel
theorem dX4_sizeOf_38 : decode cX4_sizeOf 38 = .ok (.if_icmp .ge 51, 3) := by decide +kernel
theorem dX4_sizeOf_41 : decode cX4_sizeOf 41 = .ok (.iload 4, 2) := by decide +kernel
theorem dX4_sizeOf_43 : decode cX4_sizeOf 43 = .ok (.iload_n 1, 1) := by decide +kernel
theorem dX4_sizeOf_44 : decode cX4_sizeOf 44 = .ok (.aload_n 0, 1) := by decide +kernel
theorem dX4_sizeOf_45 : decode cX4_sizeOf 45 = .ok (.getfield 10, 3) := by decide +kernel
theorem dX4_sizeOf_48 : decode cX4_sizeOf 48 = .ok (.getfield 60, 3) := by decide +kernel
theorem dX4_sizeOf_51 : decode cX4_sizeOf 51 = .ok (.iload_n 2, 1) := by decide +kernel
theorem dX4_sizeOf_52 : decode cX4_sizeOf 52 = .ok (.aaload, 1) := by decide +kernel
theorem dX4_sizeOf_53 : decode cX4_sizeOf 53 = .ok (.getfield 183, 3) := by decide +kernel
theorem dX4_sizeOf_56 : decode cX4_sizeOf 56 = .ok (.iload 5, 2) := by decide +kernel
theorem dX4_sizeOf_58 : decode cX4_sizeOf 58 = .ok (.laload, 1) := by decide +kernel
theorem dX4_sizeOf_59 : decode cX4_sizeOf 59 = .ok (.aload_n 0, 1) := by decide +kernel
theorem dX4_sizeOf_60 : decode cX4_sizeOf 60 = .ok (.getfield 10, 3) := by decide +kernel
theorem dX4_sizeOf_63 : decode cX4_sizeOf 63 = .ok (.getfield 60, 3) := by decide +kernel
theorem dX4_sizeOf_66 : decode cX4_sizeOf 66 = .ok (.iload_n 3, 1) := by decide +kernel
theorem dX4_sizeOf_67 : decode cX4_sizeOf 67 = .ok (.aaload, 1) := by decide +kernel
theorem dX4_sizeOf_68 : decode cX4_sizeOf 68 = .ok (.getfield 183, 3) := by decide +kernel
theorem dX4_sizeOf_71 : decode cX4_sizeOf 71 = .ok (.iload 5, 2) := by decide +kernel
theorem dX4_sizeOf_73 : decode cX4_sizeOf 73 = .ok (.laload, 1) := by decide +kernel
theorem dX4_sizeOf_74 : decode cX4_sizeOf 74 = .ok (.invokestatic 187, 3) := by decide +kernel
theorem dX4_sizeOf_77 : decode cX4_sizeOf 77 = .ok (.invokestatic 191, 3) := by decide +kernel
theorem dX4_sizeOf_80 : decode cX4_sizeOf 80 = .ok (.iadd, 1) := by decide +kernel
theorem dX4_sizeOf_81 : decode cX4_sizeOf 81 = .ok (.istore 4, 2) := by decide +kernel
theorem dX4_sizeOf_83 : decode cX4_sizeOf 83 = .ok (.iinc 5 1, 3) := by decide +kernel
theorem dX4_sizeOf_86 : decode cX4_sizeOf 86 = .ok (.goto (-52), 3) := by decide +kernel
theorem dX4_sizeOf_89 : decode cX4_sizeOf 89 = .ok (.iload 4, 2) := by decide +kernel
theorem dX4_sizeOf_91 : decode cX4_sizeOf 91 = .ok (.ireturn, 1) := by decide +kernel
set_option maxRecDepth 20000 in
theorem ggX4_ofAll_X1_numberOfAll : GoodIn wsX4_ofAll wsX1_numberOfAll := goodIn_r _ [6, 7, 8, 9, 5, 10, 11, 12, 13, 14, 15, 16, 17, 18, 19, 20, 21, 22, 23, 24, 25, 26, 33, 34, 35, 36, 37, 38, 39, 40, 41] (by decide +kernel) (by decide +kernel)
set_option maxRecDepth 20000 in
theorem gX4_ofAll_X1_numberOfAll : GoodIn wsX4_ofAll (wsV RX4 197 RX1 yX1_numberOfAll wsX1_numberOfAll) := goodIn_app (goodIn_of _ (by decide +kernel)) ggX4_ofAll_X1_numberOfAll
theorem dX4_ofAll_0 : decode cX4_ofAll 0 = .ok (.iload_n 1, 1) := by decide +kernel
theorem dX4_ofAll_1 : decode cX4_ofAll 1 = .ok (.ifCond .ge 6, 3) := by decide +kernel
theorem dX4_ofAll_4 : decode cX4_ofAll 4 = .ok (.bipush (-2), 2) := by decide +kernel
theorem dX4_ofAll_6 : decode cX4_ofAll 6 = .ok (.ireturn, 1) := by decide +kernel
theorem dX4_ofAll_7 : decode cX4_ofAll 7 = .ok (.aload_n 0, 1) := by decide +kernel
theorem dX4_ofAll_8 : decode cX4_ofAll 8 = .ok (.getfield 10, 3) := by decide +kernel
theorem dX4_ofAll_11 : decode cX4_ofAll 11 = .ok (.iload_n 1, 1) := by decide +kernel
theorem dX4_ofAll_12 : decode cX4_ofAll 12 = .ok (.invokevirtual 197, 3) := by decide +kernel
theorem dX4_ofAll_15 : decode cX4_ofAll 15 = .ok (.ireturn, 1) := by decide +kernel
set_option maxRecDepth 20000 in
theorem ggX4_most_X1_mostHeld : GoodIn wsX4_most wsX1_mostHeld := goodIn_r _ [6, 7, 8, 9, 5, 10, 11, 12, 13, 14, 15, 16, 17, 18, 19, 20, 21, 22, 23, 24, 25, 26, 33, 34, 35, 36, 37, 38, 39, 40, 41] (by decide +kernel) (by decide +kernel)
set_option maxRecDepth 20000 in
theorem gX4_most_X1_mostHeld : GoodIn wsX4_most (wsV RX4 200 RX1 yX1_mostHeld wsX1_mostHeld) := goodIn_app (goodIn_of _ (by decide +kernel)) ggX4_most_X1_mostHeld
theorem dX4_most_0 : decode cX4_most 0 = .ok (.aload_n 0, 1) := by decide +kernel
theorem dX4_most_1 : decode cX4_most 1 = .ok (.getfield 10, 3) := by decide +kernel
theorem dX4_most_4 : decode cX4_most 4 = .ok (.invokevirtual 200, 3) := by decide +kernel
theorem dX4_most_7 : decode cX4_most 7 = .ok (.ireturn, 1) := by decide +kernel
set_option maxRecDepth 20000 in
theorem ggX4_tollToDock_X4_isSet : GoodIn wsX4_tollToDock wsX4_isSet := goodIn_r _ [8, 2, 9, 50, 51, 52, 53, 54, 55, 56, 57] (by decide +kernel) (by decide +kernel)
set_option maxRecDepth 20000 in
theorem gX4_tollToDock_X4_isSet : GoodIn wsX4_tollToDock (wsV RX4 56 RX4 yX4_isSet wsX4_isSet) := goodIn_app (goodIn_of _ (by decide +kernel)) ggX4_tollToDock_X4_isSet
set_option maxRecDepth 20000 in
theorem ggX4_tollToDock_X0_copyFrom : GoodIn wsX4_tollToDock wsX0_copyFrom := goodIn_r _ [14, 15, 16, 17, 18, 19, 20, 21, 22, 23, 24, 25, 58, 59, 60, 61, 62, 63, 64] (by decide +kernel) (by decide +kernel)
set_option maxRecDepth 20000 in
theorem gX4_tollToDock_X0_copyFrom : GoodIn wsX4_tollToDock (wsV RX4 91 RX0 yX0_copyFrom wsX0_copyFrom) := goodIn_app (goodIn_of _ (by decide +kernel)) ggX4_tollToDock_X0_copyFrom
set_option maxRecDepth 20000 in
theorem ggX4_tollToDock_X0_enterHarbour : GoodIn wsX4_tollToDock wsX0_enterHarbour := goodIn_r _ [29, 25, 30, 31, 32, 13, 33, 20, 34, 35, 36, 37, 38, 39, 40, 41, 21, 22, 42, 43, 44, 45, 46, 47, 48, 49, 23, 24, 58, 59, 60, 61, 62, 63, 64] (by decide +kernel) (by decide +kernel)
set_option maxRecDepth 20000 in
theorem gX4_tollToDock_X0_enterHarbour : GoodIn wsX4_tollToDock (wsV RX4 74 RX0 yX0_enterHarbour wsX0_enterHarbour) := goodIn_app (goodIn_of _ (by decide +kernel)) ggX4_tollToDock_X0_enterHarbour
theorem dX4_tollToDock_0 : decode cX4_tollToDock 0 = .ok (.aload_n 0, 1) := by decide +kernel
theorem dX4_tollToDock_1 : decode cX4_tollToDock 1 = .ok (.iload_n 1, 1) := by decide +kernel
theorem dX4_tollToDock_2 : decode cX4_tollToDock 2 = .ok (.invokevirtual 56, 3) := by decide +kernel
theorem dX4_tollToDock_5 : decode cX4_tollToDock 5 = .ok (.ifCond .ne 5, 3) := by decide +kernel
theorem dX4_tollToDock_8 : decode cX4_tollToDock 8 = .ok (.iconst (-1), 1) := by decide +kernel
theorem dX4_tollToDock_9 : decode cX4_tollToDock 9 = .ok (.ireturn, 1) := by decide +kernel
theorem dX4_tollToDock_10 : decode cX4_tollToDock 10 = .ok (.aload_n 0, 1) := by decide +kernel
theorem dX4_tollToDock_11 : decode cX4_tollToDock 11 = .ok (.getfield 36, 3) := by decide +kernel
theorem dX4_tollToDock_14 : decode cX4_tollToDock 14 = .ok (.aload_n 0, 1) := by decide +kernel
theorem dX4_tollToDock_15 : decode cX4_tollToDock 15 = .ok (.getfield 10, 3) := by decide +kernel
theorem dX4_tollToDock_18 : decode cX4_tollToDock 18 = .ok (.getfield 60, 3) := by decide +kernel
theorem dX4_tollToDock_21 : decode cX4_tollToDock 21 = .ok (.iload_n 1, 1) := by decide +kernel
theorem dX4_tollToDock_22 : decode cX4_tollToDock 22 = .ok (.aaload, 1) := by decide +kernel
theorem dX4_tollToDock_23 : decode cX4_tollToDock 23 = .ok (.invokevirtual 91, 3) := by decide +kernel
theorem dX4_tollToDock_26 : decode cX4_tollToDock 26 = .ok (.aload_n 0, 1) := by decide +kernel
theorem dX4_tollToDock_27 : decode cX4_tollToDock 27 = .ok (.getfield 36, 3) := by decide +kernel
theorem dX4_tollToDock_30 : decode cX4_tollToDock 30 = .ok (.invokevirtual 74, 3) := by decide +kernel
theorem dX4_tollToDock_33 : decode cX4_tollToDock 33 = .ok (.ireturn, 1) := by decide +kernel
set_option maxRecDepth 20000 in
theorem ggX4_count_X1_setsAtSea : GoodIn wsX4_count wsX1_setsAtSea := goodIn_r _ [11, 12, 13, 14, 74, 75, 83, 84, 85, 86, 87, 88, 89] (by decide +kernel) (by decide +kernel)
set_option maxRecDepth 20000 in
theorem gX4_count_X1_setsAtSea : GoodIn wsX4_count (wsV RX4 203 RX1 yX1_setsAtSea wsX1_setsAtSea) := goodIn_app (goodIn_of _ (by decide +kernel)) ggX4_count_X1_setsAtSea
set_option maxRecDepth 20000 in
theorem ggX4_count_X1_boatsOfKind : GoodIn wsX4_count wsX1_boatsOfKind := goodIn_r _ [18, 12, 13, 19, 20, 21, 22, 23, 24, 25, 74, 75, 83, 84, 85, 86, 87, 88, 89] (by decide +kernel) (by decide +kernel)
set_option maxRecDepth 20000 in
theorem gX4_count_X1_boatsOfKind : GoodIn wsX4_count (wsV RX4 206 RX1 yX1_boatsOfKind wsX1_boatsOfKind) := goodIn_app (goodIn_of _ (by decide +kernel)) ggX4_count_X1_boatsOfKind
set_option maxRecDepth 20000 in
theorem ggX4_count_X1_units : GoodIn wsX4_count wsX1_units := goodIn_r _ [29, 12, 13, 30, 31, 32, 22, 33, 25, 34, 35, 36, 37, 24, 38, 74, 75, 83, 84, 85, 86, 87, 88, 89] (by decide +kernel) (by decide +kernel)
set_option maxRecDepth 20000 in
theorem gX4_count_X1_units : GoodIn wsX4_count (wsV RX4 209 RX1 yX1_units wsX1_units) := goodIn_app (goodIn_of _ (by decide +kernel)) ggX4_count_X1_units
set_option maxRecDepth 20000 in
theorem ggX4_count_X1_numbers : GoodIn wsX4_count wsX1_numbers := goodIn_r _ [42, 12, 13, 43, 44, 45, 22, 46, 24, 74, 75, 83, 84, 85, 86, 87, 88, 89] (by decide +kernel) (by decide +kernel)
set_option maxRecDepth 20000 in
theorem gX4_count_X1_numbers : GoodIn wsX4_count (wsV RX4 210 RX1 yX1_numbers wsX1_numbers) := goodIn_app (goodIn_of _ (by decide +kernel)) ggX4_count_X1_numbers
set_option maxRecDepth 20000 in
theorem ggX4_count_X1_differentNumbers : GoodIn wsX4_count wsX1_differentNumbers := goodIn_r _ [50, 51, 52, 53, 10, 54, 12, 13, 55, 56, 57, 58, 59, 60, 61, 62, 74, 75, 83, 84, 85, 86, 87, 88, 89] (by decide +kernel) (by decide +kernel)
set_option maxRecDepth 20000 in
theorem gX4_count_X1_differentNumbers : GoodIn wsX4_count (wsV RX4 211 RX1 yX1_differentNumbers wsX1_differentNumbers) := goodIn_app (goodIn_of _ (by decide +kernel)) ggX4_count_X1_differentNumbers
set_option maxRecDepth 20000 in
theorem ggX4_count_X1_tollsPaid : GoodIn wsX4_count wsX1_tollsPaid := goodIn_r _ [66, 12, 13, 67, 74, 75, 83, 84, 85, 86, 87, 88, 89] (by decide +kernel) (by decide +kernel)
set_option maxRecDepth 20000 in
theorem gX4_count_X1_tollsPaid : GoodIn wsX4_count (wsV RX4 214 RX1 yX1_tollsPaid wsX1_tollsPaid) := goodIn_app (goodIn_of _ (by decide +kernel)) ggX4_count_X1_tollsPaid
theorem dX4_count_0 : decode cX4_count 0 = .ok (.iload_n 1, 1) := by decide +kernel
theorem dX4_count_1 : decode cX4_count 1 = .ok (.tableswitch 150 0 10 #[59, 67, 75, 84, 93, 102, 110, 118, 126, 134, 142], 59) := by decide +kernel
theorem dX4_count_60 : decode cX4_count 60 = .ok (.aload_n 0, 1) := by decide +kernel
theorem dX4_count_61 : decode cX4_count 61 = .ok (.getfield 10, 3) := by decide +kernel
theorem dX4_count_64 : decode cX4_count 64 = .ok (.getfield 44, 3) := by decide +kernel
theorem dX4_count_67 : decode cX4_count 67 = .ok (.ireturn, 1) := by decide +kernel
theorem dX4_count_68 : decode cX4_count 68 = .ok (.aload_n 0, 1) := by decide +kernel
theorem dX4_count_69 : decode cX4_count 69 = .ok (.getfield 10, 3) := by decide +kernel
theorem dX4_count_72 : decode cX4_count 72 = .ok (.invokevirtual 203, 3) := by decide +kernel
theorem dX4_count_75 : decode cX4_count 75 = .ok (.ireturn, 1) := by decide +kernel
theorem dX4_count_76 : decode cX4_count 76 = .ok (.aload_n 0, 1) := by decide +kernel
theorem dX4_count_77 : decode cX4_count 77 = .ok (.getfield 10, 3) := by decide +kernel
theorem dX4_count_80 : decode cX4_count 80 = .ok (.iconst 0, 1) := by decide +kernel
theorem dX4_count_81 : decode cX4_count 81 = .ok (.invokevirtual 206, 3) := by decide +kernel
theorem dX4_count_84 : decode cX4_count 84 = .ok (.ireturn, 1) := by decide +kernel
theorem dX4_count_85 : decode cX4_count 85 = .ok (.aload_n 0, 1) := by decide +kernel
theorem dX4_count_86 : decode cX4_count 86 = .ok (.getfield 10, 3) := by decide +kernel
theorem dX4_count_89 : decode cX4_count 89 = .ok (.iconst 1, 1) := by decide +kernel
theorem dX4_count_90 : decode cX4_count 90 = .ok (.invokevirtual 206, 3) := by decide +kernel
theorem dX4_count_93 : decode cX4_count 93 = .ok (.ireturn, 1) := by decide +kernel
theorem dX4_count_94 : decode cX4_count 94 = .ok (.aload_n 0, 1) := by decide +kernel
theorem dX4_count_95 : decode cX4_count 95 = .ok (.getfield 10, 3) := by decide +kernel
theorem dX4_count_98 : decode cX4_count 98 = .ok (.iconst 2, 1) := by decide +kernel
theorem dX4_count_99 : decode cX4_count 99 = .ok (.invokevirtual 206, 3) := by decide +kernel
theorem dX4_count_102 : decode cX4_count 102 = .ok (.ireturn, 1) := by decide +kernel
theorem dX4_count_103 : decode cX4_count 103 = .ok (.aload_n 0, 1) := by decide +kernel
theorem dX4_count_104 : decode cX4_count 104 = .ok (.getfield 10, 3) := by decide +kernel
theorem dX4_count_107 : decode cX4_count 107 = .ok (.invokevirtual 209, 3) := by decide +kernel
theorem dX4_count_110 : decode cX4_count 110 = .ok (.ireturn, 1) := by decide +kernel
theorem dX4_count_111 : decode cX4_count 111 = .ok (.aload_n 0, 1) := by decide +kernel
theorem dX4_count_112 : decode cX4_count 112 = .ok (.getfield 10, 3) := by decide +kernel
theorem dX4_count_115 : decode cX4_count 115 = .ok (.invokevirtual 210, 3) := by decide +kernel
theorem dX4_count_118 : decode cX4_count 118 = .ok (.ireturn, 1) := by decide +kernel
theorem dX4_count_119 : decode cX4_count 119 = .ok (.aload_n 0, 1) := by decide +kernel
theorem dX4_count_120 : decode cX4_count 120 = .ok (.getfield 10, 3) := by decide +kernel
theorem dX4_count_123 : decode cX4_count 123 = .ok (.invokevirtual 211, 3) := by decide +kernel
theorem dX4_count_126 : decode cX4_count 126 = .ok (.ireturn, 1) := by decide +kernel
theorem dX4_count_127 : decode cX4_count 127 = .ok (.aload_n 0, 1) := by decide +kernel
theorem dX4_count_128 : decode cX4_count 128 = .ok (.getfield 10, 3) := by decide +kernel
theorem dX4_count_131 : decode cX4_count 131 = .ok (.invokevirtual 214, 3) := by decide +kernel
theorem dX4_count_134 : decode cX4_count 134 = .ok (.ireturn, 1) := by decide +kernel
theorem dX4_count_135 : decode cX4_count 135 = .ok (.aload_n 0, 1) := by decide +kernel
theorem dX4_count_136 : decode cX4_count 136 = .ok (.getfield 22, 3) := by decide +kernel
theorem dX4_count_139 : decode cX4_count 139 = .ok (.getfield 133, 3) := by decide +kernel
theorem dX4_count_142 : decode cX4_count 142 = .ok (.ireturn, 1) := by decide +kernel
theorem dX4_count_143 : decode cX4_count 143 = .ok (.aload_n 0, 1) := by decide +kernel
theorem dX4_count_144 : decode cX4_count 144 = .ok (.getfield 29, 3) := by decide +kernel
theorem dX4_count_147 : decode cX4_count 147 = .ok (.getfield 102, 3) := by decide +kernel
theorem dX4_count_150 : decode cX4_count 150 = .ok (.ireturn, 1) := by decide +kernel
theorem dX4_count_151 : decode cX4_count 151 = .ok (.bipush (-2), 2) := by decide +kernel
theorem dX4_count_153 : decode cX4_count 153 = .ok (.ireturn, 1) := by decide +kernel
theorem dX4_isSet_0 : decode cX4_isSet 0 = .ok (.iload_n 1, 1) := by decide +kernel
theorem dX4_isSet_1 : decode cX4_isSet 1 = .ok (.ifCond .lt 18, 3) := by decide +kernel
theorem dX4_isSet_4 : decode cX4_isSet 4 = .ok (.iload_n 1, 1) := by decide +kernel
theorem dX4_isSet_5 : decode cX4_isSet 5 = .ok (.aload_n 0, 1) := by decide +kernel
theorem dX4_isSet_6 : decode cX4_isSet 6 = .ok (.getfield 10, 3) := by decide +kernel
theorem dX4_isSet_9 : decode cX4_isSet 9 = .ok (.getfield 44, 3) := by decide +kernel
theorem dX4_isSet_12 : decode cX4_isSet 12 = .ok (.if_icmp .ge 7, 3) := by decide +kernel
theorem dX4_isSet_15 : decode cX4_isSet 15 = .ok (.iconst 1, 1) := by decide +kernel
theorem dX4_isSet_16 : decode cX4_isSet 16 = .ok (.goto 4, 3) := by decide +kernel
theorem dX4_isSet_19 : decode cX4_isSet 19 = .ok (.iconst 0, 1) := by decide +kernel
theorem dX4_isSet_20 : decode cX4_isSet 20 = .ok (.ireturn, 1) := by decide +kernel
theorem dX4_isHow_0 : decode cX4_isHow 0 = .ok (.iload_n 0, 1) := by decide +kernel
theorem dX4_isHow_1 : decode cX4_isHow 1 = .ok (.ifCond .lt 12, 3) := by decide +kernel
theorem dX4_isHow_4 : decode cX4_isHow 4 = .ok (.iload_n 0, 1) := by decide +kernel
theorem dX4_isHow_5 : decode cX4_isHow 5 = .ok (.iconst 3, 1) := by decide +kernel
theorem dX4_isHow_6 : decode cX4_isHow 6 = .ok (.if_icmp .gt 7, 3) := by decide +kernel
theorem dX4_isHow_9 : decode cX4_isHow 9 = .ok (.iconst 1, 1) := by decide +kernel
theorem dX4_isHow_10 : decode cX4_isHow 10 = .ok (.goto 4, 3) := by decide +kernel
theorem dX4_isHow_13 : decode cX4_isHow 13 = .ok (.iconst 0, 1) := by decide +kernel
theorem dX4_isHow_14 : decode cX4_isHow 14 = .ok (.ireturn, 1) := by decide +kernel
set_option maxRecDepth 20000 in
theorem ggX4_moveRange_X4_isSet : GoodIn wsX4_moveRange wsX4_isSet := goodIn_r _ [8, 2, 9, 96, 97, 98, 99, 100, 101, 102, 103] (by decide +kernel) (by decide +kernel)
set_option maxRecDepth 20000 in
theorem gX4_moveRange_X4_isSet : GoodIn wsX4_moveRange (wsV RX4 56 RX4 yX4_isSet wsX4_isSet) := goodIn_app (goodIn_of _ (by decide +kernel)) ggX4_moveRange_X4_isSet
set_option maxRecDepth 20000 in
theorem ggX4_moveRange_X4_isNumber : GoodIn wsX4_moveRange wsX4_isNumber := goodIn_r _ [12] (by decide +kernel) (by decide +kernel)
set_option maxRecDepth 20000 in
theorem gX4_moveRange_X4_isNumber : GoodIn wsX4_moveRange (va_wsS RX4 141 yX4_isNumber wsX4_isNumber) := goodIn_app (goodIn_of _ (by decide +kernel)) ggX4_moveRange_X4_isNumber
set_option maxRecDepth 20000 in
theorem ggX4_moveRange_X0_copyFrom : GoodIn wsX4_moveRange wsX0_copyFrom := goodIn_r _ [17, 18, 19, 20, 21, 22, 23, 24, 25, 26, 27, 28, 104, 105, 106, 107, 108, 109, 110] (by decide +kernel) (by decide +kernel)
set_option maxRecDepth 20000 in
theorem gX4_moveRange_X0_copyFrom : GoodIn wsX4_moveRange (wsV RX4 91 RX0 yX0_copyFrom wsX0_copyFrom) := goodIn_app (goodIn_of _ (by decide +kernel)) ggX4_moveRange_X0_copyFrom
set_option maxRecDepth 20000 in
theorem ggX4_moveRange_X0_move : GoodIn wsX4_moveRange wsX0_move := goodIn_r _ [32, 33, 34, 35, 36, 37, 38, 39, 40, 41, 42, 16, 43, 18, 11, 7, 12, 44, 45, 46, 47, 24, 25, 48, 49, 50, 51, 52, 53, 54, 55, 23, 28, 56, 57, 58, 59, 26, 27, 60, 61, 62, 63, 64, 65, 66, 67, 68, 69, 70, 71, 104, 105, 106, 107, 108, 109, 110] (by decide +kernel) (by decide +kernel)
set_option maxRecDepth 20000 in
theorem gX4_moveRange_X0_move : GoodIn wsX4_moveRange (wsV RX4 125 RX0 yX0_move wsX0_move) := goodIn_app (goodIn_of _ (by decide +kernel)) ggX4_moveRange_X0_move
set_option maxRecDepth 20000 in
theorem ggX4_moveRange_X4_settleTrial : GoodIn wsX4_moveRange wsX4_settleTrial := goodIn_r _ [75, 76, 2, 3, 1, 77, 78, 79, 80, 81, 82, 83, 84, 85, 86, 87, 88, 89, 90, 91, 92, 93, 94, 95, 14, 15, 16, 17, 18, 19, 20, 21, 22, 23, 24, 25, 26, 27, 28, 13, 96, 97, 98, 99, 100, 101, 102, 103, 111, 112, 104, 105, 106, 107, 108, 109, 110] (by decide +kernel) (by decide +kernel)
set_option maxRecDepth 20000 in
theorem gX4_moveRange_X4_settleTrial : GoodIn wsX4_moveRange (wsV RX4 129 RX4 yX4_settleTrial wsX4_settleTrial) := goodIn_app (goodIn_of _ (by decide +kernel)) ggX4_moveRange_X4_settleTrial
theorem dX4_moveRange_0 : decode cX4_moveRange 0 = .ok (.aload_n 0, 1) := by decide +kernel
theorem dX4_moveRange_1 : decode cX4_moveRange 1 = .ok (.iload_n 1, 1) := by decide +kernel
theorem dX4_moveRange_2 : decode cX4_moveRange 2 = .ok (.invokevirtual 56, 3) := by decide +kernel
theorem dX4_moveRange_5 : decode cX4_moveRange 5 = .ok (.ifCond .ne 5, 3) := by decide +kernel
theorem dX4_moveRange_8 : decode cX4_moveRange 8 = .ok (.iconst (-1), 1) := by decide +kernel
theorem dX4_moveRange_9 : decode cX4_moveRange 9 = .ok (.ireturn, 1) := by decide +kernel
theorem dX4_moveRange_10 : decode cX4_moveRange 10 = .ok (.iload_n 2, 1) := by decide +kernel
theorem dX4_moveRange_11 : decode cX4_moveRange 11 = .ok (.invokestatic 141, 3) := by decide +kernel
theorem dX4_moveRange_14 : decode cX4_moveRange 14 = .ok (.ifCond .eq 15, 3) := by decide +kernel
theorem dX4_moveRange_17 : decode cX4_moveRange 17 = .ok (.iload_n 3, 1) := by decide +kernel
theorem dX4_moveRange_18 : decode cX4_moveRange 18 = .ok (.invokestatic 141, 3) := by decide +kernel
theorem dX4_moveRange_21 : decode cX4_moveRange 21 = .ok (.ifCond .eq 8, 3) := by decide +kernel
theorem dX4_moveRange_24 : decode cX4_moveRange 24 = .ok (.iload_n 3, 1) := by decide +kernel
theorem dX4_moveRange_25 : decode cX4_moveRange 25 = .ok (.iload_n 2, 1) := by decide +kernel
theorem dX4_moveRange_26 : decode cX4_moveRange 26 = .ok (.if_icmp .ge 6, 3) := by decide +kernel
theorem dX4_moveRange_29 : decode cX4_moveRange 29 = .ok (.bipush (-2), 2) := by decide +kernel
theorem dX4_moveRange_31 : decode cX4_moveRange 31 = .ok (.ireturn, 1) := by decide +kernel
theorem dX4_moveRange_32 : decode cX4_moveRange 32 = .ok (.aload_n 0, 1) := by decide +kernel
theorem dX4_moveRange_33 : decode cX4_moveRange 33 = .ok (.getfield 36, 3) := by decide +kernel
theorem dX4_moveRange_36 : decode cX4_moveRange 36 = .ok (.aload_n 0, 1) := by decide +kernel
theorem dX4_moveRange_37 : decode cX4_moveRange 37 = .ok (.getfield 10, 3) := by decide +kernel
theorem dX4_moveRange_40 : decode cX4_moveRange 40 = .ok (.getfield 60, 3) := by decide +kernel
theorem dX4_moveRange_43 : decode cX4_moveRange 43 = .ok (.iload_n 1, 1) := by decide +kernel
theorem dX4_moveRange_44 : decode cX4_moveRange 44 = .ok (.aaload, 1) := by decide +kernel
theorem dX4_moveRange_45 : decode cX4_moveRange 45 = .ok (.invokevirtual 91, 3) := by decide +kernel
theorem dX4_moveRange_48 : decode cX4_moveRange 48 = .ok (.aload_n 0, 1) := by decide +kernel
theorem dX4_moveRange_49 : decode cX4_moveRange 49 = .ok (.iload_n 1, 1) := by decide +kernel
theorem dX4_moveRange_50 : decode cX4_moveRange 50 = .ok (.aload_n 0, 1) := by decide +kernel
theorem dX4_moveRange_51 : decode cX4_moveRange 51 = .ok (.getfield 36, 3) := by decide +kernel
theorem dX4_moveRange_54 : decode cX4_moveRange 54 = .ok (.iload_n 2, 1) := by decide +kernel
theorem dX4_moveRange_55 : decode cX4_moveRange 55 = .ok (.iload_n 3, 1) := by decide +kernel
theorem dX4_moveRange_56 : decode cX4_moveRange 56 = .ok (.iload 4, 2) := by decide +kernel
theorem dX4_moveRange_58 : decode cX4_moveRange 58 = .ok (.invokevirtual 125, 3) := by decide +kernel
theorem dX4_moveRange_61 : decode cX4_moveRange 61 = .ok (.invokevirtual 129, 3) := by decide +kernel
theorem dX4_moveRange_64 : decode cX4_moveRange 64 = .ok (.ireturn, 1) := by decide +kernel
set_option maxRecDepth 20000 in
theorem ggX4_settleTrial_X2_push : GoodIn wsX4_settleTrial wsX2_push := goodIn_r _ [9, 10, 11, 12, 13, 14, 8, 15, 16, 17, 18, 19, 20, 21, 22, 23, 24, 25, 26, 27, 28, 29, 30, 31, 32, 33, 34, 35, 36, 37, 38, 48, 49, 46, 47, 50, 51, 52, 53, 54, 55, 56] (by decide +kernel) (by decide +kernel)
set_option maxRecDepth 20000 in
theorem gX4_settleTrial_X2_push : GoodIn wsX4_settleTrial (wsV RX4 48 RX2 yX2_push wsX2_push) := goodIn_app (goodIn_of _ (by decide +kernel)) ggX4_settleTrial_X2_push
set_option maxRecDepth 20000 in
theorem ggX4_settleTrial_X0_copyFrom : GoodIn wsX4_settleTrial wsX0_copyFrom := goodIn_r _ [27, 28, 29, 30, 31, 32, 33, 34, 35, 36, 37, 38, 50, 51, 52, 53, 54, 55, 56] (by decide +kernel) (by decide +kernel)
set_option maxRecDepth 20000 in
theorem gX4_settleTrial_X0_copyFrom : GoodIn wsX4_settleTrial (wsV RX4 91 RX0 yX0_copyFrom wsX0_copyFrom) := goodIn_app (goodIn_of _ (by decide +kernel)) ggX4_settleTrial_X0_copyFrom
theorem dX4_settleTrial_0 : decode cX4_settleTrial 0 = .ok (.iload_n 2, 1) := by decide +kernel
theorem dX4_settleTrial_1 : decode cX4_settleTrial 1 = .ok (.ifCond .ge 5, 3) := by decide +kernel
theorem dX4_settleTrial_4 : decode cX4_settleTrial 4 = .ok (.iload_n 2, 1) := by decide +kernel
theorem dX4_settleTrial_5 : decode cX4_settleTrial 5 = .ok (.ireturn, 1) := by decide +kernel
theorem dX4_settleTrial_6 : decode cX4_settleTrial 6 = .ok (.iload_n 2, 1) := by decide +kernel
theorem dX4_settleTrial_7 : decode cX4_settleTrial 7 = .ok (.ifCond .ne 6, 3) := by decide +kernel
theorem dX4_settleTrial_10 : decode cX4_settleTrial 10 = .ok (.bipush (-5), 2) := by decide +kernel
theorem dX4_settleTrial_12 : decode cX4_settleTrial 12 = .ok (.ireturn, 1) := by decide +kernel
theorem dX4_settleTrial_13 : decode cX4_settleTrial 13 = .ok (.aload_n 0, 1) := by decide +kernel
theorem dX4_settleTrial_14 : decode cX4_settleTrial 14 = .ok (.getfield 22, 3) := by decide +kernel
theorem dX4_settleTrial_17 : decode cX4_settleTrial 17 = .ok (.aload_n 0, 1) := by decide +kernel
theorem dX4_settleTrial_18 : decode cX4_settleTrial 18 = .ok (.getfield 10, 3) := by decide +kernel
theorem dX4_settleTrial_21 : decode cX4_settleTrial 21 = .ok (.invokevirtual 48, 3) := by decide +kernel
theorem dX4_settleTrial_24 : decode cX4_settleTrial 24 = .ok (.aload_n 0, 1) := by decide +kernel
theorem dX4_settleTrial_25 : decode cX4_settleTrial 25 = .ok (.getfield 10, 3) := by decide +kernel
theorem dX4_settleTrial_28 : decode cX4_settleTrial 28 = .ok (.getfield 60, 3) := by decide +kernel
theorem dX4_settleTrial_31 : decode cX4_settleTrial 31 = .ok (.iload_n 1, 1) := by decide +kernel
theorem dX4_settleTrial_32 : decode cX4_settleTrial 32 = .ok (.aaload, 1) := by decide +kernel
theorem dX4_settleTrial_33 : decode cX4_settleTrial 33 = .ok (.aload_n 0, 1) := by decide +kernel
theorem dX4_settleTrial_34 : decode cX4_settleTrial 34 = .ok (.getfield 36, 3) := by decide +kernel
theorem dX4_settleTrial_37 : decode cX4_settleTrial 37 = .ok (.invokevirtual 91, 3) := by decide +kernel
theorem dX4_settleTrial_40 : decode cX4_settleTrial 40 = .ok (.iload_n 2, 1) := by decide +kernel
theorem dX4_settleTrial_41 : decode cX4_settleTrial 41 = .ok (.ireturn, 1) := by decide +kernel
