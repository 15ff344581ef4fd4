/-! rows of cell, up, units, best, least, pairs, mark (printed) -/
theorem dL_cell_0 : decode cL_cell 0 = .ok (.iload_n 1, 1) := by decide +kernel
theorem dL_cell_1 : decode cL_cell 1 = .ok (.aload_n 0, 1) := by decide +kernel
theorem dL_cell_2 : decode cL_cell 2 = .ok (.arraylength, 1) := by decide +kernel
theorem dL_cell_3 : decode cL_cell 3 = .ok (.if_icmp .ge 9, 3) := by decide +kernel
theorem dL_cell_6 : decode cL_cell 6 = .ok (.aload_n 0, 1) := by decide +kernel
theorem dL_cell_7 : decode cL_cell 7 = .ok (.iload_n 1, 1) := by decide +kernel
theorem dL_cell_8 : decode cL_cell 8 = .ok (.iaload, 1) := by decide +kernel
theorem dL_cell_9 : decode cL_cell 9 = .ok (.goto 9, 3) := by decide +kernel
theorem dL_cell_12 : decode cL_cell 12 = .ok (.ldc 7, 2) := by decide +kernel
theorem dL_cell_14 : decode cL_cell 14 = .ok (.iload_n 1, 1) := by decide +kernel
theorem dL_cell_15 : decode cL_cell 15 = .ok (.iconst 3, 1) := by decide +kernel
theorem dL_cell_16 : decode cL_cell 16 = .ok (.iadd, 1) := by decide +kernel
theorem dL_cell_17 : decode cL_cell 17 = .ok (.imul, 1) := by decide +kernel
theorem dL_cell_18 : decode cL_cell 18 = .ok (.ireturn, 1) := by decide +kernel
theorem dL_up_0 : decode cL_up 0 = .ok (.iload_n 0, 1) := by decide +kernel
theorem dL_up_1 : decode cL_up 1 = .ok (.ldc 8, 2) := by decide +kernel
theorem dL_up_3 : decode cL_up 3 = .ok (.iand, 1) := by decide +kernel
theorem dL_up_4 : decode cL_up 4 = .ok (.iload_n 1, 1) := by decide +kernel
theorem dL_up_5 : decode cL_up 5 = .ok (.irem, 1) := by decide +kernel
theorem dL_up_6 : decode cL_up 6 = .ok (.ireturn, 1) := by decide +kernel
theorem dL_units_0 : decode cL_units 0 = .ok (.iload_n 0, 1) := by decide +kernel
theorem dL_units_1 : decode cL_units 1 = .ok (.ifCond .ne 9, 3) := by decide +kernel
theorem dL_units_4 : decode cL_units 4 = .ok (.iconst 2, 1) := by decide +kernel
theorem dL_units_5 : decode cL_units 5 = .ok (.iload_n 1, 1) := by decide +kernel
theorem dL_units_6 : decode cL_units 6 = .ok (.imul, 1) := by decide +kernel
theorem dL_units_7 : decode cL_units 7 = .ok (.goto 16, 3) := by decide +kernel
theorem dL_units_10 : decode cL_units 10 = .ok (.iload_n 0, 1) := by decide +kernel
theorem dL_units_11 : decode cL_units 11 = .ok (.iconst 1, 1) := by decide +kernel
theorem dL_units_12 : decode cL_units 12 = .ok (.if_icmp .ne 8, 3) := by decide +kernel
theorem dL_units_15 : decode cL_units 15 = .ok (.bipush 32, 2) := by decide +kernel
theorem dL_units_17 : decode cL_units 17 = .ok (.goto 6, 3) := by decide +kernel
theorem dL_units_20 : decode cL_units 20 = .ok (.iconst 3, 1) := by decide +kernel
theorem dL_units_21 : decode cL_units 21 = .ok (.iload_n 2, 1) := by decide +kernel
theorem dL_units_22 : decode cL_units 22 = .ok (.imul, 1) := by decide +kernel
theorem dL_units_23 : decode cL_units 23 = .ok (.ireturn, 1) := by decide +kernel
theorem dL_best_0 : decode cL_best 0 = .ok (.iload_n 0, 1) := by decide +kernel
theorem dL_best_1 : decode cL_best 1 = .ok (.bipush 24, 2) := by decide +kernel
theorem dL_best_3 : decode cL_best 3 = .ok (.if_icmp .gt 9, 3) := by decide +kernel
theorem dL_best_6 : decode cL_best 6 = .ok (.iconst 2, 1) := by decide +kernel
theorem dL_best_7 : decode cL_best 7 = .ok (.iload_n 0, 1) := by decide +kernel
theorem dL_best_8 : decode cL_best 8 = .ok (.imul, 1) := by decide +kernel
theorem dL_best_9 : decode cL_best 9 = .ok (.goto 5, 3) := by decide +kernel
theorem dL_best_12 : decode cL_best 12 = .ok (.bipush 99, 2) := by decide +kernel
theorem dL_best_14 : decode cL_best 14 = .ok (.istore_n 2, 1) := by decide +kernel
theorem dL_best_15 : decode cL_best 15 = .ok (.iload_n 1, 1) := by decide +kernel
theorem dL_best_16 : decode cL_best 16 = .ok (.bipush 8, 2) := by decide +kernel
theorem dL_best_18 : decode cL_best 18 = .ok (.if_icmp .gt 9, 3) := by decide +kernel
theorem dL_best_21 : decode cL_best 21 = .ok (.iconst 3, 1) := by decide +kernel
theorem dL_best_22 : decode cL_best 22 = .ok (.iload_n 1, 1) := by decide +kernel
theorem dL_best_23 : decode cL_best 23 = .ok (.imul, 1) := by decide +kernel
theorem dL_best_24 : decode cL_best 24 = .ok (.goto 5, 3) := by decide +kernel
theorem dL_best_27 : decode cL_best 27 = .ok (.bipush 99, 2) := by decide +kernel
theorem dL_best_29 : decode cL_best 29 = .ok (.istore_n 3, 1) := by decide +kernel
theorem dL_best_30 : decode cL_best 30 = .ok (.iload_n 2, 1) := by decide +kernel
theorem dL_best_31 : decode cL_best 31 = .ok (.bipush 32, 2) := by decide +kernel
theorem dL_best_33 : decode cL_best 33 = .ok (.if_icmp .gt 12, 3) := by decide +kernel
theorem dL_best_36 : decode cL_best 36 = .ok (.iload_n 2, 1) := by decide +kernel
theorem dL_best_37 : decode cL_best 37 = .ok (.iload_n 3, 1) := by decide +kernel
theorem dL_best_38 : decode cL_best 38 = .ok (.if_icmp .gt 7, 3) := by decide +kernel
theorem dL_best_41 : decode cL_best 41 = .ok (.iconst 0, 1) := by decide +kernel
theorem dL_best_42 : decode cL_best 42 = .ok (.goto 14, 3) := by decide +kernel
theorem dL_best_45 : decode cL_best 45 = .ok (.iload_n 3, 1) := by decide +kernel
theorem dL_best_46 : decode cL_best 46 = .ok (.bipush 32, 2) := by decide +kernel
theorem dL_best_48 : decode cL_best 48 = .ok (.if_icmp .ge 7, 3) := by decide +kernel
theorem dL_best_51 : decode cL_best 51 = .ok (.iconst 2, 1) := by decide +kernel
theorem dL_best_52 : decode cL_best 52 = .ok (.goto 4, 3) := by decide +kernel
theorem dL_best_55 : decode cL_best 55 = .ok (.iconst 1, 1) := by decide +kernel
theorem dL_best_56 : decode cL_best 56 = .ok (.ireturn, 1) := by decide +kernel
set_option maxRecDepth 20000 in
theorem ggL_least_X4_set : GoodIn wsL_least wsX4_set := goodIn_r _ [5, 6, 7, 8, 9, 10, 11, 12, 13, 4, 14, 15, 16, 17, 18, 19, 20, 21, 22, 23, 24, 25, 26, 27, 28, 29, 30, 31, 32, 33, 34, 35, 36, 37, 38, 39, 40, 41, 42, 43, 44, 45, 46, 47, 48, 49, 50, 51, 52, 53, 54, 55, 56, 57, 58, 59, 60, 61, 62, 63, 64, 65, 66, 67, 68, 69, 70, 71, 72, 73, 74, 75, 76, 77, 78, 79, 80, 81, 82, 83, 84, 85] (by decide +kernel) (by decide +kernel)
set_option maxRecDepth 20000 in
theorem gL_least_X4_set : GoodIn wsL_least (wsV RL 19 RX4 yX4_set wsX4_set) := goodIn_app (goodIn_of _ (by decide +kernel)) ggL_least_X4_set
theorem dL_least_0 : decode cL_least 0 = .ok (.sipush 4096, 3) := by decide +kernel
theorem dL_least_3 : decode cL_least 3 = .ok (.istore_n 2, 1) := by decide +kernel
theorem dL_least_4 : decode cL_least 4 = .ok (.iconst 0, 1) := by decide +kernel
theorem dL_least_5 : decode cL_least 5 = .ok (.istore_n 3, 1) := by decide +kernel
theorem dL_least_6 : decode cL_least 6 = .ok (.iload_n 3, 1) := by decide +kernel
theorem dL_least_7 : decode cL_least 7 = .ok (.iload_n 1, 1) := by decide +kernel
theorem dL_least_8 : decode cL_least 8 = .ok (.if_icmp .ge 36, 3) := by decide +kernel
theorem dL_least_11 : decode cL_least 11 = .ok (.aload_n 0, 1) := by decide +kernel
theorem dL_least_12 : decode cL_least 12 = .ok (.iload_n 3, 1) := by decide +kernel
theorem dL_least_13 : decode cL_least 13 = .ok (.bipush 7, 2) := by decide +kernel
theorem dL_least_15 : decode cL_least 15 = .ok (.invokevirtual 19, 3) := by decide +kernel
theorem dL_least_18 : decode cL_least 18 = .ok (.istore 4, 2) := by decide +kernel
theorem dL_least_20 : decode cL_least 20 = .ok (.iload 4, 2) := by decide +kernel
theorem dL_least_22 : decode cL_least 22 = .ok (.ifCond .lt 14, 3) := by decide +kernel
theorem dL_least_25 : decode cL_least 25 = .ok (.iload 4, 2) := by decide +kernel
theorem dL_least_27 : decode cL_least 27 = .ok (.iload_n 2, 1) := by decide +kernel
theorem dL_least_28 : decode cL_least 28 = .ok (.if_icmp .ge 8, 3) := by decide +kernel
theorem dL_least_31 : decode cL_least 31 = .ok (.iload 4, 2) := by decide +kernel
theorem dL_least_33 : decode cL_least 33 = .ok (.goto 4, 3) := by decide +kernel
theorem dL_least_36 : decode cL_least 36 = .ok (.iload_n 2, 1) := by decide +kernel
theorem dL_least_37 : decode cL_least 37 = .ok (.istore_n 2, 1) := by decide +kernel
theorem dL_least_38 : decode cL_least 38 = .ok (.iinc 3 1, 3) := by decide +kernel
theorem dL_least_41 : decode cL_least 41 = .ok (.goto (-35), 3) := by decide +kernel
theorem dL_least_44 : decode cL_least 44 = .ok (.iload_n 2, 1) := by decide +kernel
theorem dL_least_45 : decode cL_least 45 = .ok (.ireturn, 1) := by decide +kernel
set_option maxRecDepth 20000 in
theorem ggL_pairs_X4_sizeOf : GoodIn wsL_pairs wsX4_sizeOf := goodIn_r _ [5, 6, 7, 8, 9, 10, 11, 4, 12, 13, 14, 15, 16, 17, 18, 19, 20, 21, 22, 23, 24, 25, 26, 27, 84, 85, 86, 87, 88, 89, 90, 91, 92, 93, 94, 95, 96, 97, 98] (by decide +kernel) (by decide +kernel)
set_option maxRecDepth 20000 in
theorem gL_pairs_X4_sizeOf : GoodIn wsL_pairs (wsV RL 82 RX4 yX4_sizeOf wsX4_sizeOf) := goodIn_app (goodIn_of _ (by decide +kernel)) ggL_pairs_X4_sizeOf
set_option maxRecDepth 20000 in
theorem ggL_pairs_X4_set : GoodIn wsL_pairs wsX4_set := goodIn_r _ [31, 6, 7, 32, 33, 34, 9, 10, 11, 4, 12, 13, 35, 36, 37, 38, 39, 40, 41, 42, 43, 44, 45, 46, 47, 48, 49, 50, 51, 52, 53, 54, 55, 56, 57, 58, 59, 60, 61, 62, 63, 64, 65, 66, 67, 68, 22, 23, 24, 25, 26, 27, 69, 70, 71, 72, 73, 74, 75, 76, 77, 78, 79, 80, 81, 82, 83, 84, 85, 86, 87, 88, 89, 90, 91, 92, 93, 94, 95, 96, 97, 98] (by decide +kernel) (by decide +kernel)
set_option maxRecDepth 20000 in
theorem gL_pairs_X4_set : GoodIn wsL_pairs (wsV RL 19 RX4 yX4_set wsX4_set) := goodIn_app (goodIn_of _ (by decide +kernel)) ggL_pairs_X4_set
theorem dL_pairs_0 : decode cL_pairs 0 = .ok (.aload_n 0, 1) := by decide +kernel
theorem dL_pairs_1 : decode cL_pairs 1 = .ok (.iconst 0, 1) := by decide +kernel
theorem dL_pairs_2 : decode cL_pairs 2 = .ok (.iload_n 1, 1) := by decide +kernel
theorem dL_pairs_3 : decode cL_pairs 3 = .ok (.iload_n 2, 1) := by decide +kernel
theorem dL_pairs_4 : decode cL_pairs 4 = .ok (.invokevirtual 82, 3) := by decide +kernel
theorem dL_pairs_7 : decode cL_pairs 7 = .ok (.istore_n 3, 1) := by decide +kernel
theorem dL_pairs_8 : decode cL_pairs 8 = .ok (.aload_n 0, 1) := by decide +kernel
theorem dL_pairs_9 : decode cL_pairs 9 = .ok (.iconst 1, 1) := by decide +kernel
theorem dL_pairs_10 : decode cL_pairs 10 = .ok (.iload_n 1, 1) := by decide +kernel
theorem dL_pairs_11 : decode cL_pairs 11 = .ok (.iload_n 2, 1) := by decide +kernel
theorem dL_pairs_12 : decode cL_pairs 12 = .ok (.invokevirtual 82, 3) := by decide +kernel
theorem dL_pairs_15 : decode cL_pairs 15 = .ok (.istore 4, 2) := by decide +kernel
theorem dL_pairs_17 : decode cL_pairs 17 = .ok (.iload_n 3, 1) := by decide +kernel
theorem dL_pairs_18 : decode cL_pairs 18 = .ok (.iload 4, 2) := by decide +kernel
theorem dL_pairs_20 : decode cL_pairs 20 = .ok (.iadd, 1) := by decide +kernel
theorem dL_pairs_21 : decode cL_pairs 21 = .ok (.aload_n 0, 1) := by decide +kernel
theorem dL_pairs_22 : decode cL_pairs 22 = .ok (.iload_n 1, 1) := by decide +kernel
theorem dL_pairs_23 : decode cL_pairs 23 = .ok (.iconst 0, 1) := by decide +kernel
theorem dL_pairs_24 : decode cL_pairs 24 = .ok (.invokevirtual 19, 3) := by decide +kernel
theorem dL_pairs_27 : decode cL_pairs 27 = .ok (.aload_n 0, 1) := by decide +kernel
theorem dL_pairs_28 : decode cL_pairs 28 = .ok (.iload_n 2, 1) := by decide +kernel
theorem dL_pairs_29 : decode cL_pairs 29 = .ok (.iconst 0, 1) := by decide +kernel
theorem dL_pairs_30 : decode cL_pairs 30 = .ok (.invokevirtual 19, 3) := by decide +kernel
theorem dL_pairs_33 : decode cL_pairs 33 = .ok (.iadd, 1) := by decide +kernel
theorem dL_pairs_34 : decode cL_pairs 34 = .ok (.if_icmp .ne 63, 3) := by decide +kernel
theorem dL_pairs_37 : decode cL_pairs 37 = .ok (.aload_n 0, 1) := by decide +kernel
theorem dL_pairs_38 : decode cL_pairs 38 = .ok (.iconst 2, 1) := by decide +kernel
theorem dL_pairs_39 : decode cL_pairs 39 = .ok (.iload_n 1, 1) := by decide +kernel
theorem dL_pairs_40 : decode cL_pairs 40 = .ok (.iload_n 2, 1) := by decide +kernel
theorem dL_pairs_41 : decode cL_pairs 41 = .ok (.invokevirtual 82, 3) := by decide +kernel
theorem dL_pairs_44 : decode cL_pairs 44 = .ok (.aload_n 0, 1) := by decide +kernel
theorem dL_pairs_45 : decode cL_pairs 45 = .ok (.iload_n 1, 1) := by decide +kernel
theorem dL_pairs_46 : decode cL_pairs 46 = .ok (.iconst 0, 1) := by decide +kernel
theorem dL_pairs_47 : decode cL_pairs 47 = .ok (.invokevirtual 19, 3) := by decide +kernel
theorem dL_pairs_50 : decode cL_pairs 50 = .ok (.iload 4, 2) := by decide +kernel
theorem dL_pairs_52 : decode cL_pairs 52 = .ok (.isub, 1) := by decide +kernel
theorem dL_pairs_53 : decode cL_pairs 53 = .ok (.if_icmp .ne 44, 3) := by decide +kernel
theorem dL_pairs_56 : decode cL_pairs 56 = .ok (.aload_n 0, 1) := by decide +kernel
theorem dL_pairs_57 : decode cL_pairs 57 = .ok (.iconst 3, 1) := by decide +kernel
theorem dL_pairs_58 : decode cL_pairs 58 = .ok (.iload_n 1, 1) := by decide +kernel
theorem dL_pairs_59 : decode cL_pairs 59 = .ok (.iload_n 2, 1) := by decide +kernel
theorem dL_pairs_60 : decode cL_pairs 60 = .ok (.invokevirtual 82, 3) := by decide +kernel
theorem dL_pairs_63 : decode cL_pairs 63 = .ok (.iload_n 3, 1) := by decide +kernel
theorem dL_pairs_64 : decode cL_pairs 64 = .ok (.iload 4, 2) := by decide +kernel
theorem dL_pairs_66 : decode cL_pairs 66 = .ok (.isub, 1) := by decide +kernel
theorem dL_pairs_67 : decode cL_pairs 67 = .ok (.if_icmp .ne 30, 3) := by decide +kernel
theorem dL_pairs_70 : decode cL_pairs 70 = .ok (.aload_n 0, 1) := by decide +kernel
theorem dL_pairs_71 : decode cL_pairs 71 = .ok (.iconst 1, 1) := by decide +kernel
theorem dL_pairs_72 : decode cL_pairs 72 = .ok (.iload_n 2, 1) := by decide +kernel
theorem dL_pairs_73 : decode cL_pairs 73 = .ok (.iload_n 1, 1) := by decide +kernel
theorem dL_pairs_74 : decode cL_pairs 74 = .ok (.invokevirtual 82, 3) := by decide +kernel
theorem dL_pairs_77 : decode cL_pairs 77 = .ok (.iload 4, 2) := by decide +kernel
theorem dL_pairs_79 : decode cL_pairs 79 = .ok (.if_icmp .ne 18, 3) := by decide +kernel
theorem dL_pairs_82 : decode cL_pairs 82 = .ok (.aload_n 0, 1) := by decide +kernel
theorem dL_pairs_83 : decode cL_pairs 83 = .ok (.iconst 0, 1) := by decide +kernel
theorem dL_pairs_84 : decode cL_pairs 84 = .ok (.iload_n 2, 1) := by decide +kernel
theorem dL_pairs_85 : decode cL_pairs 85 = .ok (.iload_n 1, 1) := by decide +kernel
theorem dL_pairs_86 : decode cL_pairs 86 = .ok (.invokevirtual 82, 3) := by decide +kernel
theorem dL_pairs_89 : decode cL_pairs 89 = .ok (.iload_n 3, 1) := by decide +kernel
theorem dL_pairs_90 : decode cL_pairs 90 = .ok (.if_icmp .ne 7, 3) := by decide +kernel
theorem dL_pairs_93 : decode cL_pairs 93 = .ok (.iconst 1, 1) := by decide +kernel
theorem dL_pairs_94 : decode cL_pairs 94 = .ok (.goto 4, 3) := by decide +kernel
theorem dL_pairs_97 : decode cL_pairs 97 = .ok (.iconst 0, 1) := by decide +kernel
theorem dL_pairs_98 : decode cL_pairs 98 = .ok (.ireturn, 1) := by decide +kernel
set_option maxRecDepth 20000 in
theorem ggL_mark_X4_count : GoodIn wsL_mark wsX4_count := goodIn_r _ [7, 8, 9, 10, 11, 12, 13, 14, 15, 16, 17, 18, 19, 20, 21, 22, 23, 24, 25, 26, 27, 28, 29, 30, 31, 32, 33, 34, 35, 36, 37, 38, 39, 40, 41, 42, 43, 44, 45, 46, 47, 48, 49, 50, 51, 52, 53, 54, 55, 56, 57, 58, 59, 60, 61, 62, 63, 64, 65, 66, 67, 68, 69, 70, 71, 72, 73, 74, 153, 154, 155, 156, 157, 158, 159, 160, 161, 162, 163, 164, 165, 166, 167, 168, 169, 170, 171, 172, 173, 174] (by decide +kernel) (by decide +kernel)
set_option maxRecDepth 20000 in
theorem gL_mark_X4_count : GoodIn wsL_mark (wsV RL 13 RX4 yX4_count wsX4_count) := goodIn_app (goodIn_of _ (by decide +kernel)) ggL_mark_X4_count
set_option maxRecDepth 20000 in
theorem ggL_mark_X4_set : GoodIn wsL_mark wsX4_set := goodIn_r _ [78, 8, 79, 80, 81, 82, 83, 84, 85, 6, 86, 9, 87, 51, 52, 29, 53, 31, 88, 89, 90, 91, 92, 27, 28, 30, 32, 93, 38, 39, 40, 41, 42, 43, 44, 45, 94, 95, 96, 97, 98, 99, 100, 101, 102, 103, 64, 65, 66, 67, 68, 69, 104, 105, 106, 107, 108, 109, 110, 111, 112, 113, 114, 115, 116, 117, 118, 153, 154, 155, 156, 157, 158, 159, 160, 168, 169, 170, 171, 172, 173, 174] (by decide +kernel) (by decide +kernel)
set_option maxRecDepth 20000 in
theorem gL_mark_X4_set : GoodIn wsL_mark (wsV RL 19 RX4 yX4_set wsX4_set) := goodIn_app (goodIn_of _ (by decide +kernel)) ggL_mark_X4_set
set_option maxRecDepth 20000 in
theorem ggL_mark_X4_boat : GoodIn wsL_mark wsX4_boat := goodIn_r _ [122, 8, 79, 123, 124, 125, 83, 84, 85, 6, 86, 9, 126, 42, 43, 29, 44, 31, 45, 127, 112, 113, 114, 115, 116, 117, 118, 41, 128, 129, 130, 131, 32, 111, 153, 154, 155, 156, 157, 158, 159, 160, 168, 169, 170, 171, 172, 173, 174] (by decide +kernel) (by decide +kernel)
set_option maxRecDepth 20000 in
theorem gL_mark_X4_boat : GoodIn wsL_mark (wsV RL 23 RX4 yX4_boat wsX4_boat) := goodIn_app (goodIn_of _ (by decide +kernel)) ggL_mark_X4_boat
set_option maxRecDepth 20000 in
theorem ggL_mark_X4_rank : GoodIn wsL_mark wsX4_rank := goodIn_r _ [135, 8, 79, 83, 84, 85, 6, 86, 9, 136, 137, 138, 139, 140, 141, 29, 142, 102, 103, 64, 65, 66, 67, 68, 69, 153, 154, 155, 156, 157, 158, 159, 160, 168, 169, 170, 171, 172, 173, 174] (by decide +kernel) (by decide +kernel)
set_option maxRecDepth 20000 in
theorem gL_mark_X4_rank : GoodIn wsL_mark (wsV RL 27 RX4 yX4_rank wsX4_rank) := goodIn_app (goodIn_of _ (by decide +kernel)) ggL_mark_X4_rank
set_option maxRecDepth 20000 in
theorem ggL_mark_X4_next : GoodIn wsL_mark wsX4_next := goodIn_r _ [146, 8, 79, 83, 84, 85, 6, 86, 9, 136, 137, 138, 147, 148, 149, 29, 150, 151, 140, 141, 142, 102, 103, 64, 65, 66, 67, 68, 69, 152, 99, 100, 101, 104, 105, 106, 153, 154, 155, 156, 157, 158, 159, 160, 168, 169, 170, 171, 172, 173, 174] (by decide +kernel) (by decide +kernel)
set_option maxRecDepth 20000 in
theorem gL_mark_X4_next : GoodIn wsL_mark (wsV RL 30 RX4 yX4_next wsX4_next) := goodIn_app (goodIn_of _ (by decide +kernel)) ggL_mark_X4_next
theorem dL_mark_0 : decode cL_mark 0 = .ok (.ldc2_w 9, 3) := by decide +kernel
theorem dL_mark_3 : decode cL_mark 3 = .ok (.lstore_n 1, 1) := by decide +kernel
theorem dL_mark_4 : decode cL_mark 4 = .ok (.iconst 0, 1) := by decide +kernel
theorem dL_mark_5 : decode cL_mark 5 = .ok (.istore_n 3, 1) := by decide +kernel
theorem dL_mark_6 : decode cL_mark 6 = .ok (.iload_n 3, 1) := by decide +kernel
theorem dL_mark_7 : decode cL_mark 7 = .ok (.bipush 9, 2) := by decide +kernel
theorem dL_mark_9 : decode cL_mark 9 = .ok (.if_icmp .ge 22, 3) := by decide +kernel
theorem dL_mark_12 : decode cL_mark 12 = .ok (.ldc2_w 11, 3) := by decide +kernel
theorem dL_mark_15 : decode cL_mark 15 = .ok (.lload_n 1, 1) := by decide +kernel
theorem dL_mark_16 : decode cL_mark 16 = .ok (.lmul, 1) := by decide +kernel
theorem dL_mark_17 : decode cL_mark 17 = .ok (.aload_n 0, 1) := by decide +kernel
theorem dL_mark_18 : decode cL_mark 18 = .ok (.iload_n 3, 1) := by decide +kernel
theorem dL_mark_19 : decode cL_mark 19 = .ok (.invokevirtual 13, 3) := by decide +kernel
theorem dL_mark_22 : decode cL_mark 22 = .ok (.i2l, 1) := by decide +kernel
theorem dL_mark_23 : decode cL_mark 23 = .ok (.ladd, 1) := by decide +kernel
theorem dL_mark_24 : decode cL_mark 24 = .ok (.lstore_n 1, 1) := by decide +kernel
theorem dL_mark_25 : decode cL_mark 25 = .ok (.iinc 3 1, 3) := by decide +kernel
theorem dL_mark_28 : decode cL_mark 28 = .ok (.goto (-22), 3) := by decide +kernel
theorem dL_mark_31 : decode cL_mark 31 = .ok (.iconst 0, 1) := by decide +kernel
theorem dL_mark_32 : decode cL_mark 32 = .ok (.istore_n 3, 1) := by decide +kernel
theorem dL_mark_33 : decode cL_mark 33 = .ok (.iload_n 3, 1) := by decide +kernel
theorem dL_mark_34 : decode cL_mark 34 = .ok (.aload_n 0, 1) := by decide +kernel
theorem dL_mark_35 : decode cL_mark 35 = .ok (.iconst 0, 1) := by decide +kernel
theorem dL_mark_36 : decode cL_mark 36 = .ok (.invokevirtual 13, 3) := by decide +kernel
theorem dL_mark_39 : decode cL_mark 39 = .ok (.if_icmp .ge 117, 3) := by decide +kernel
theorem dL_mark_42 : decode cL_mark 42 = .ok (.iconst 0, 1) := by decide +kernel
theorem dL_mark_43 : decode cL_mark 43 = .ok (.istore 4, 2) := by decide +kernel
theorem dL_mark_45 : decode cL_mark 45 = .ok (.iload 4, 2) := by decide +kernel
theorem dL_mark_47 : decode cL_mark 47 = .ok (.bipush 10, 2) := by decide +kernel
theorem dL_mark_49 : decode cL_mark 49 = .ok (.if_icmp .ge 24, 3) := by decide +kernel
theorem dL_mark_52 : decode cL_mark 52 = .ok (.ldc2_w 11, 3) := by decide +kernel
theorem dL_mark_55 : decode cL_mark 55 = .ok (.lload_n 1, 1) := by decide +kernel
theorem dL_mark_56 : decode cL_mark 56 = .ok (.lmul, 1) := by decide +kernel
theorem dL_mark_57 : decode cL_mark 57 = .ok (.aload_n 0, 1) := by decide +kernel
theorem dL_mark_58 : decode cL_mark 58 = .ok (.iload_n 3, 1) := by decide +kernel
theorem dL_mark_59 : decode cL_mark 59 = .ok (.iload 4, 2) := by decide +kernel
theorem dL_mark_61 : decode cL_mark 61 = .ok (.invokevirtual 19, 3) := by decide +kernel
theorem dL_mark_64 : decode cL_mark 64 = .ok (.i2l, 1) := by decide +kernel
theorem dL_mark_65 : decode cL_mark 65 = .ok (.ladd, 1) := by decide +kernel
theorem dL_mark_66 : decode cL_mark 66 = .ok (.lstore_n 1, 1) := by decide +kernel
theorem dL_mark_67 : decode cL_mark 67 = .ok (.iinc 4 1, 3) := by decide +kernel
theorem dL_mark_70 : decode cL_mark 70 = .ok (.goto (-25), 3) := by decide +kernel
theorem dL_mark_73 : decode cL_mark 73 = .ok (.iconst 0, 1) := by decide +kernel
theorem dL_mark_74 : decode cL_mark 74 = .ok (.istore 4, 2) := by decide +kernel
theorem dL_mark_76 : decode cL_mark 76 = .ok (.iload 4, 2) := by decide +kernel
theorem dL_mark_78 : decode cL_mark 78 = .ok (.bipush 8, 2) := by decide +kernel
theorem dL_mark_80 : decode cL_mark 80 = .ok (.if_icmp .ge 25, 3) := by decide +kernel
theorem dL_mark_83 : decode cL_mark 83 = .ok (.ldc2_w 11, 3) := by decide +kernel
theorem dL_mark_86 : decode cL_mark 86 = .ok (.lload_n 1, 1) := by decide +kernel
theorem dL_mark_87 : decode cL_mark 87 = .ok (.lmul, 1) := by decide +kernel
theorem dL_mark_88 : decode cL_mark 88 = .ok (.aload_n 0, 1) := by decide +kernel
theorem dL_mark_89 : decode cL_mark 89 = .ok (.iload_n 3, 1) := by decide +kernel
theorem dL_mark_90 : decode cL_mark 90 = .ok (.iload 4, 2) := by decide +kernel
theorem dL_mark_92 : decode cL_mark 92 = .ok (.iconst 0, 1) := by decide +kernel
theorem dL_mark_93 : decode cL_mark 93 = .ok (.invokevirtual 23, 3) := by decide +kernel
theorem dL_mark_96 : decode cL_mark 96 = .ok (.i2l, 1) := by decide +kernel
theorem dL_mark_97 : decode cL_mark 97 = .ok (.ladd, 1) := by decide +kernel
theorem dL_mark_98 : decode cL_mark 98 = .ok (.lstore_n 1, 1) := by decide +kernel
theorem dL_mark_99 : decode cL_mark 99 = .ok (.iinc 4 1, 3) := by decide +kernel
theorem dL_mark_102 : decode cL_mark 102 = .ok (.goto (-26), 3) := by decide +kernel
theorem dL_mark_105 : decode cL_mark 105 = .ok (.iconst 0, 1) := by decide +kernel
theorem dL_mark_106 : decode cL_mark 106 = .ok (.istore 4, 2) := by decide +kernel
theorem dL_mark_108 : decode cL_mark 108 = .ok (.iload 4, 2) := by decide +kernel
theorem dL_mark_110 : decode cL_mark 110 = .ok (.sipush 2048, 3) := by decide +kernel
theorem dL_mark_113 : decode cL_mark 113 = .ok (.if_icmp .ge 37, 3) := by decide +kernel
theorem dL_mark_116 : decode cL_mark 116 = .ok (.ldc2_w 11, 3) := by decide +kernel
theorem dL_mark_119 : decode cL_mark 119 = .ok (.ldc2_w 11, 3) := by decide +kernel
theorem dL_mark_122 : decode cL_mark 122 = .ok (.lload_n 1, 1) := by decide +kernel
theorem dL_mark_123 : decode cL_mark 123 = .ok (.lmul, 1) := by decide +kernel
theorem dL_mark_124 : decode cL_mark 124 = .ok (.aload_n 0, 1) := by decide +kernel
theorem dL_mark_125 : decode cL_mark 125 = .ok (.iload_n 3, 1) := by decide +kernel
theorem dL_mark_126 : decode cL_mark 126 = .ok (.iload 4, 2) := by decide +kernel
theorem dL_mark_128 : decode cL_mark 128 = .ok (.invokevirtual 27, 3) := by decide +kernel
theorem dL_mark_131 : decode cL_mark 131 = .ok (.i2l, 1) := by decide +kernel
theorem dL_mark_132 : decode cL_mark 132 = .ok (.ladd, 1) := by decide +kernel
theorem dL_mark_133 : decode cL_mark 133 = .ok (.lmul, 1) := by decide +kernel
theorem dL_mark_134 : decode cL_mark 134 = .ok (.aload_n 0, 1) := by decide +kernel
theorem dL_mark_135 : decode cL_mark 135 = .ok (.iload_n 3, 1) := by decide +kernel
theorem dL_mark_136 : decode cL_mark 136 = .ok (.iload 4, 2) := by decide +kernel
theorem dL_mark_138 : decode cL_mark 138 = .ok (.invokevirtual 30, 3) := by decide +kernel
theorem dL_mark_141 : decode cL_mark 141 = .ok (.i2l, 1) := by decide +kernel
theorem dL_mark_142 : decode cL_mark 142 = .ok (.ladd, 1) := by decide +kernel
theorem dL_mark_143 : decode cL_mark 143 = .ok (.lstore_n 1, 1) := by decide +kernel
theorem dL_mark_144 : decode cL_mark 144 = .ok (.iinc 4 64, 3) := by decide +kernel
theorem dL_mark_147 : decode cL_mark 147 = .ok (.goto (-39), 3) := by decide +kernel
theorem dL_mark_150 : decode cL_mark 150 = .ok (.iinc 3 1, 3) := by decide +kernel
theorem dL_mark_153 : decode cL_mark 153 = .ok (.goto (-120), 3) := by decide +kernel
theorem dL_mark_156 : decode cL_mark 156 = .ok (.lload_n 1, 1) := by decide +kernel
theorem dL_mark_157 : decode cL_mark 157 = .ok (.lreturn, 1) := by decide +kernel
