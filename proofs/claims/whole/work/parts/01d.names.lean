theorem dX5_init_0 : decode cX5_init 0 = .ok (.aload_n 0, 1) := by decide +kernel
theorem dX5_init_1 : decode cX5_init 1 = .ok (.invokespecial 1, 3) := by decide +kernel
theorem dX5_init_4 : decode cX5_init 4 = .ok (.aload_n 0, 1) := by decide +kernel
theorem dX5_init_5 : decode cX5_init 5 = .ok (.sipush 451, 3) := by decide +kernel
theorem dX5_init_8 : decode cX5_init 8 = .ok (.newarray .int, 2) := by decide +kernel
theorem dX5_init_10 : decode cX5_init 10 = .ok (.putfield 7, 3) := by decide +kernel
theorem dX5_init_13 : decode cX5_init 13 = .ok (.aload_n 0, 1) := by decide +kernel
theorem dX5_init_14 : decode cX5_init 14 = .ok (.sipush 1804, 3) := by decide +kernel
theorem dX5_init_17 : decode cX5_init 17 = .ok (.newarray .int, 2) := by decide +kernel
theorem dX5_init_19 : decode cX5_init 19 = .ok (.putfield 13, 3) := by decide +kernel
theorem dX5_init_22 : decode cX5_init 22 = .ok (.aload_n 0, 1) := by decide +kernel
theorem dX5_init_23 : decode cX5_init 23 = .ok (.sipush 451, 3) := by decide +kernel
theorem dX5_init_26 : decode cX5_init 26 = .ok (.newarray .int, 2) := by decide +kernel
theorem dX5_init_28 : decode cX5_init 28 = .ok (.putfield 16, 3) := by decide +kernel
theorem dX5_init_31 : decode cX5_init 31 = .ok (.aload_n 0, 1) := by decide +kernel
theorem dX5_init_32 : decode cX5_init 32 = .ok (.sipush 451, 3) := by decide +kernel
theorem dX5_init_35 : decode cX5_init 35 = .ok (.newarray .int, 2) := by decide +kernel
theorem dX5_init_37 : decode cX5_init 37 = .ok (.putfield 19, 3) := by decide +kernel
theorem dX5_init_40 : decode cX5_init 40 = .ok (.aload_n 0, 1) := by decide +kernel
theorem dX5_init_41 : decode cX5_init 41 = .ok (.bipush 60, 2) := by decide +kernel
theorem dX5_init_43 : decode cX5_init 43 = .ok (.newarray .int, 2) := by decide +kernel
theorem dX5_init_45 : decode cX5_init 45 = .ok (.putfield 22, 3) := by decide +kernel
theorem dX5_init_48 : decode cX5_init 48 = .ok (.aload_n 0, 1) := by decide +kernel
theorem dX5_init_49 : decode cX5_init 49 = .ok (.bipush 64, 2) := by decide +kernel
theorem dX5_init_51 : decode cX5_init 51 = .ok (.newarray .int, 2) := by decide +kernel
theorem dX5_init_53 : decode cX5_init 53 = .ok (.putfield 25, 3) := by decide +kernel
theorem dX5_init_56 : decode cX5_init 56 = .ok (.aload_n 0, 1) := by decide +kernel
theorem dX5_init_57 : decode cX5_init 57 = .ok (.bipush 60, 2) := by decide +kernel
theorem dX5_init_59 : decode cX5_init 59 = .ok (.newarray .int, 2) := by decide +kernel
theorem dX5_init_61 : decode cX5_init 61 = .ok (.putfield 28, 3) := by decide +kernel
theorem dX5_init_64 : decode cX5_init 64 = .ok (.return_, 1) := by decide +kernel
theorem dX5_in_0 : decode cX5_in 0 = .ok (.iload_n 0, 1) := by decide +kernel
theorem dX5_in_1 : decode cX5_in 1 = .ok (.iload_n 1, 1) := by decide +kernel
theorem dX5_in_2 : decode cX5_in 2 = .ok (.if_icmp .lt 12, 3) := by decide +kernel
theorem dX5_in_5 : decode cX5_in 5 = .ok (.iload_n 0, 1) := by decide +kernel
theorem dX5_in_6 : decode cX5_in 6 = .ok (.iload_n 2, 1) := by decide +kernel
theorem dX5_in_7 : decode cX5_in 7 = .ok (.if_icmp .gt 7, 3) := by decide +kernel
theorem dX5_in_10 : decode cX5_in 10 = .ok (.iconst 1, 1) := by decide +kernel
theorem dX5_in_11 : decode cX5_in 11 = .ok (.goto 4, 3) := by decide +kernel
theorem dX5_in_14 : decode cX5_in 14 = .ok (.iconst 0, 1) := by decide +kernel
theorem dX5_in_15 : decode cX5_in 15 = .ok (.ireturn, 1) := by decide +kernel
theorem dX5_copies_0 : decode cX5_copies 0 = .ok (.iconst 0, 1) := by decide +kernel
theorem dX5_copies_1 : decode cX5_copies 1 = .ok (.istore 4, 2) := by decide +kernel
theorem dX5_copies_3 : decode cX5_copies 3 = .ok (.iload 4, 2) := by decide +kernel
theorem dX5_copies_5 : decode cX5_copies 5 = .ok (.sipush 451, 3) := by decide +kernel
theorem dX5_copies_8 : decode cX5_copies 8 = .ok (.if_icmp .ge 21, 3) := by decide +kernel
theorem dX5_copies_11 : decode cX5_copies 11 = .ok (.aload_n 2, 1) := by decide +kernel
theorem dX5_copies_12 : decode cX5_copies 12 = .ok (.iload_n 3, 1) := by decide +kernel
theorem dX5_copies_13 : decode cX5_copies 13 = .ok (.iload 4, 2) := by decide +kernel
theorem dX5_copies_15 : decode cX5_copies 15 = .ok (.iadd, 1) := by decide +kernel
theorem dX5_copies_16 : decode cX5_copies 16 = .ok (.aload_n 0, 1) := by decide +kernel
theorem dX5_copies_17 : decode cX5_copies 17 = .ok (.iload_n 1, 1) := by decide +kernel
theorem dX5_copies_18 : decode cX5_copies 18 = .ok (.iload 4, 2) := by decide +kernel
theorem dX5_copies_20 : decode cX5_copies 20 = .ok (.iadd, 1) := by decide +kernel
theorem dX5_copies_21 : decode cX5_copies 21 = .ok (.iaload, 1) := by decide +kernel
theorem dX5_copies_22 : decode cX5_copies 22 = .ok (.iastore, 1) := by decide +kernel
theorem dX5_copies_23 : decode cX5_copies 23 = .ok (.iinc 4 1, 3) := by decide +kernel
theorem dX5_copies_26 : decode cX5_copies 26 = .ok (.goto (-23), 3) := by decide +kernel
theorem dX5_copies_29 : decode cX5_copies 29 = .ok (.return_, 1) := by decide +kernel
set_option maxRecDepth 20000 in
theorem ggX5_records_X5_copies : GoodIn wsX5_records wsX5_copies := goodIn_r _ [6] (by decide +kernel) (by decide +kernel)
set_option maxRecDepth 20000 in
theorem gX5_records_X5_copies : GoodIn wsX5_records (va_wsS RX5 35 yX5_copies wsX5_copies) := goodIn_app (goodIn_of _ (by decide +kernel)) ggX5_records_X5_copies
theorem dX5_records_0 : decode cX5_records 0 = .ok (.aload_n 0, 1) := by decide +kernel
theorem dX5_records_1 : decode cX5_records 1 = .ok (.getfield 31, 3) := by decide +kernel
theorem dX5_records_4 : decode cX5_records 4 = .ok (.iconst 4, 1) := by decide +kernel
theorem dX5_records_5 : decode cX5_records 5 = .ok (.if_icmp .ne 39, 3) := by decide +kernel
theorem dX5_records_8 : decode cX5_records 8 = .ok (.iconst 0, 1) := by decide +kernel
theorem dX5_records_9 : decode cX5_records 9 = .ok (.istore_n 2, 1) := by decide +kernel
theorem dX5_records_10 : decode cX5_records 10 = .ok (.iload_n 2, 1) := by decide +kernel
theorem dX5_records_11 : decode cX5_records 11 = .ok (.sipush 1353, 3) := by decide +kernel
theorem dX5_records_14 : decode cX5_records 14 = .ok (.if_icmp .ge 25, 3) := by decide +kernel
theorem dX5_records_17 : decode cX5_records 17 = .ok (.aload_n 0, 1) := by decide +kernel
theorem dX5_records_18 : decode cX5_records 18 = .ok (.getfield 13, 3) := by decide +kernel
theorem dX5_records_21 : decode cX5_records 21 = .ok (.iload_n 2, 1) := by decide +kernel
theorem dX5_records_22 : decode cX5_records 22 = .ok (.aload_n 0, 1) := by decide +kernel
theorem dX5_records_23 : decode cX5_records 23 = .ok (.getfield 13, 3) := by decide +kernel
theorem dX5_records_26 : decode cX5_records 26 = .ok (.iload_n 2, 1) := by decide +kernel
theorem dX5_records_27 : decode cX5_records 27 = .ok (.sipush 451, 3) := by decide +kernel
theorem dX5_records_30 : decode cX5_records 30 = .ok (.iadd, 1) := by decide +kernel
theorem dX5_records_31 : decode cX5_records 31 = .ok (.iaload, 1) := by decide +kernel
theorem dX5_records_32 : decode cX5_records 32 = .ok (.iastore, 1) := by decide +kernel
theorem dX5_records_33 : decode cX5_records 33 = .ok (.iinc 2 1, 3) := by decide +kernel
theorem dX5_records_36 : decode cX5_records 36 = .ok (.goto (-26), 3) := by decide +kernel
theorem dX5_records_39 : decode cX5_records 39 = .ok (.aload_n 0, 1) := by decide +kernel
theorem dX5_records_40 : decode cX5_records 40 = .ok (.iconst 3, 1) := by decide +kernel
theorem dX5_records_41 : decode cX5_records 41 = .ok (.putfield 31, 3) := by decide +kernel
theorem dX5_records_44 : decode cX5_records 44 = .ok (.aload_n 1, 1) := by decide +kernel
theorem dX5_records_45 : decode cX5_records 45 = .ok (.iconst 0, 1) := by decide +kernel
theorem dX5_records_46 : decode cX5_records 46 = .ok (.aload_n 0, 1) := by decide +kernel
theorem dX5_records_47 : decode cX5_records 47 = .ok (.getfield 13, 3) := by decide +kernel
theorem dX5_records_50 : decode cX5_records 50 = .ok (.aload_n 0, 1) := by decide +kernel
theorem dX5_records_51 : decode cX5_records 51 = .ok (.getfield 31, 3) := by decide +kernel
theorem dX5_records_54 : decode cX5_records 54 = .ok (.sipush 451, 3) := by decide +kernel
theorem dX5_records_57 : decode cX5_records 57 = .ok (.imul, 1) := by decide +kernel
theorem dX5_records_58 : decode cX5_records 58 = .ok (.invokestatic 35, 3) := by decide +kernel
theorem dX5_records_61 : decode cX5_records 61 = .ok (.aload_n 0, 1) := by decide +kernel
theorem dX5_records_62 : decode cX5_records 62 = .ok (.dup, 1) := by decide +kernel
theorem dX5_records_63 : decode cX5_records 63 = .ok (.getfield 31, 3) := by decide +kernel
theorem dX5_records_66 : decode cX5_records 66 = .ok (.iconst 1, 1) := by decide +kernel
theorem dX5_records_67 : decode cX5_records 67 = .ok (.iadd, 1) := by decide +kernel
theorem dX5_records_68 : decode cX5_records 68 = .ok (.putfield 31, 3) := by decide +kernel
theorem dX5_records_71 : decode cX5_records 71 = .ok (.return_, 1) := by decide +kernel
set_option maxRecDepth 20000 in
theorem ggX5_isSet_X5_in : GoodIn wsX5_isSet wsX5_in := goodIn_r _ [5] (by decide +kernel) (by decide +kernel)
set_option maxRecDepth 20000 in
theorem gX5_isSet_X5_in : GoodIn wsX5_isSet (va_wsS RX5 39 yX5_in wsX5_in) := goodIn_app (goodIn_of _ (by decide +kernel)) ggX5_isSet_X5_in
theorem dX5_isSet_0 : decode cX5_isSet 0 = .ok (.iload_n 1, 1) := by decide +kernel
theorem dX5_isSet_1 : decode cX5_isSet 1 = .ok (.iconst 0, 1) := by decide +kernel
theorem dX5_isSet_2 : decode cX5_isSet 2 = .ok (.aload_n 0, 1) := by decide +kernel
theorem dX5_isSet_3 : decode cX5_isSet 3 = .ok (.getfield 7, 3) := by decide +kernel
theorem dX5_isSet_6 : decode cX5_isSet 6 = .ok (.iconst 0, 1) := by decide +kernel
theorem dX5_isSet_7 : decode cX5_isSet 7 = .ok (.iaload, 1) := by decide +kernel
theorem dX5_isSet_8 : decode cX5_isSet 8 = .ok (.iconst 1, 1) := by decide +kernel
theorem dX5_isSet_9 : decode cX5_isSet 9 = .ok (.isub, 1) := by decide +kernel
theorem dX5_isSet_10 : decode cX5_isSet 10 = .ok (.invokestatic 39, 3) := by decide +kernel
theorem dX5_isSet_13 : decode cX5_isSet 13 = .ok (.ireturn, 1) := by decide +kernel
set_option maxRecDepth 20000 in
theorem ggX5_isNumber_X5_in : GoodIn wsX5_isNumber wsX5_in := goodIn_r _ [4] (by decide +kernel) (by decide +kernel)
set_option maxRecDepth 20000 in
theorem gX5_isNumber_X5_in : GoodIn wsX5_isNumber (va_wsS RX5 39 yX5_in wsX5_in) := goodIn_app (goodIn_of _ (by decide +kernel)) ggX5_isNumber_X5_in
theorem dX5_isNumber_0 : decode cX5_isNumber 0 = .ok (.iload_n 0, 1) := by decide +kernel
theorem dX5_isNumber_1 : decode cX5_isNumber 1 = .ok (.iconst 0, 1) := by decide +kernel
theorem dX5_isNumber_2 : decode cX5_isNumber 2 = .ok (.sipush 2047, 3) := by decide +kernel
theorem dX5_isNumber_5 : decode cX5_isNumber 5 = .ok (.invokestatic 39, 3) := by decide +kernel
theorem dX5_isNumber_8 : decode cX5_isNumber 8 = .ok (.ireturn, 1) := by decide +kernel
theorem dX5_of_0 : decode cX5_of 0 = .ok (.aload_n 0, 1) := by decide +kernel
theorem dX5_of_1 : decode cX5_of 1 = .ok (.getfield 7, 3) := by decide +kernel
theorem dX5_of_4 : decode cX5_of 4 = .ok (.iconst 1, 1) := by decide +kernel
theorem dX5_of_5 : decode cX5_of 5 = .ok (.bipush 75, 2) := by decide +kernel
theorem dX5_of_7 : decode cX5_of 7 = .ok (.iload_n 1, 1) := by decide +kernel
theorem dX5_of_8 : decode cX5_of 8 = .ok (.imul, 1) := by decide +kernel
theorem dX5_of_9 : decode cX5_of 9 = .ok (.iadd, 1) := by decide +kernel
theorem dX5_of_10 : decode cX5_of 10 = .ok (.iload_n 2, 1) := by decide +kernel
theorem dX5_of_11 : decode cX5_of 11 = .ok (.iadd, 1) := by decide +kernel
theorem dX5_of_12 : decode cX5_of 12 = .ok (.iaload, 1) := by decide +kernel
theorem dX5_of_13 : decode cX5_of 13 = .ok (.ireturn, 1) := by decide +kernel
theorem dX5_lays_0 : decode cX5_lays 0 = .ok (.aload_n 0, 1) := by decide +kernel
theorem dX5_lays_1 : decode cX5_lays 1 = .ok (.getfield 7, 3) := by decide +kernel
theorem dX5_lays_4 : decode cX5_lays 4 = .ok (.iconst 1, 1) := by decide +kernel
theorem dX5_lays_5 : decode cX5_lays 5 = .ok (.bipush 75, 2) := by decide +kernel
theorem dX5_lays_7 : decode cX5_lays 7 = .ok (.iload_n 1, 1) := by decide +kernel
theorem dX5_lays_8 : decode cX5_lays 8 = .ok (.imul, 1) := by decide +kernel
theorem dX5_lays_9 : decode cX5_lays 9 = .ok (.iadd, 1) := by decide +kernel
theorem dX5_lays_10 : decode cX5_lays 10 = .ok (.iload_n 2, 1) := by decide +kernel
theorem dX5_lays_11 : decode cX5_lays 11 = .ok (.iadd, 1) := by decide +kernel
theorem dX5_lays_12 : decode cX5_lays 12 = .ok (.iload_n 3, 1) := by decide +kernel
theorem dX5_lays_13 : decode cX5_lays 13 = .ok (.iastore, 1) := by decide +kernel
theorem dX5_lays_14 : decode cX5_lays 14 = .ok (.return_, 1) := by decide +kernel
set_option maxRecDepth 20000 in
theorem ggX5_isIn_X5_of : GoodIn wsX5_isIn wsX5_of := goodIn_r _ [5, 6, 7, 8, 9, 10, 11, 12, 13, 14, 15, 16, 17, 18, 19] (by decide +kernel) (by decide +kernel)
set_option maxRecDepth 20000 in
theorem gX5_isIn_X5_of : GoodIn wsX5_isIn (wsV RX5 43 RX5 yX5_of wsX5_of) := goodIn_app (goodIn_of _ (by decide +kernel)) ggX5_isIn_X5_of
theorem dX5_isIn_0 : decode cX5_isIn 0 = .ok (.aload_n 0, 1) := by decide +kernel
theorem dX5_isIn_1 : decode cX5_isIn 1 = .ok (.iload_n 1, 1) := by decide +kernel
theorem dX5_isIn_2 : decode cX5_isIn 2 = .ok (.bipush 11, 2) := by decide +kernel
theorem dX5_isIn_4 : decode cX5_isIn 4 = .ok (.iload_n 2, 1) := by decide +kernel
theorem dX5_isIn_5 : decode cX5_isIn 5 = .ok (.bipush 32, 2) := by decide +kernel
theorem dX5_isIn_7 : decode cX5_isIn 7 = .ok (.idiv, 1) := by decide +kernel
theorem dX5_isIn_8 : decode cX5_isIn 8 = .ok (.iadd, 1) := by decide +kernel
theorem dX5_isIn_9 : decode cX5_isIn 9 = .ok (.invokevirtual 43, 3) := by decide +kernel
theorem dX5_isIn_12 : decode cX5_isIn 12 = .ok (.iload_n 2, 1) := by decide +kernel
theorem dX5_isIn_13 : decode cX5_isIn 13 = .ok (.bipush 32, 2) := by decide +kernel
theorem dX5_isIn_15 : decode cX5_isIn 15 = .ok (.irem, 1) := by decide +kernel
theorem dX5_isIn_16 : decode cX5_isIn 16 = .ok (.ishr, 1) := by decide +kernel
theorem dX5_isIn_17 : decode cX5_isIn 17 = .ok (.iconst 1, 1) := by decide +kernel
theorem dX5_isIn_18 : decode cX5_isIn 18 = .ok (.iand, 1) := by decide +kernel
theorem dX5_isIn_19 : decode cX5_isIn 19 = .ok (.iconst 1, 1) := by decide +kernel
theorem dX5_isIn_20 : decode cX5_isIn 20 = .ok (.if_icmp .ne 7, 3) := by decide +kernel
theorem dX5_isIn_23 : decode cX5_isIn 23 = .ok (.iconst 1, 1) := by decide +kernel
theorem dX5_isIn_24 : decode cX5_isIn 24 = .ok (.goto 4, 3) := by decide +kernel
theorem dX5_isIn_27 : decode cX5_isIn 27 = .ok (.iconst 0, 1) := by decide +kernel
theorem dX5_isIn_28 : decode cX5_isIn 28 = .ok (.ireturn, 1) := by decide +kernel
set_option maxRecDepth 20000 in
theorem ggX5_puts_X5_of : GoodIn wsX5_puts wsX5_of := goodIn_r _ [5, 6, 11, 12, 13, 14, 15, 16, 17, 18, 19, 20, 21, 22, 23] (by decide +kernel) (by decide +kernel)
set_option maxRecDepth 20000 in
theorem gX5_puts_X5_of : GoodIn wsX5_puts (wsV RX5 43 RX5 yX5_of wsX5_of) := goodIn_app (goodIn_of _ (by decide +kernel)) ggX5_puts_X5_of
set_option maxRecDepth 20000 in
theorem ggX5_puts_X5_lays : GoodIn wsX5_puts wsX5_lays := goodIn_r _ [10, 6, 11, 12, 13, 14, 15, 16, 17, 18, 19, 20, 21, 22, 23] (by decide +kernel) (by decide +kernel)
set_option maxRecDepth 20000 in
theorem gX5_puts_X5_lays : GoodIn wsX5_puts (wsV RX5 47 RX5 yX5_lays wsX5_lays) := goodIn_app (goodIn_of _ (by decide +kernel)) ggX5_puts_X5_lays
theorem dX5_puts_0 : decode cX5_puts 0 = .ok (.iconst 1, 1) := by decide +kernel
theorem dX5_puts_1 : decode cX5_puts 1 = .ok (.iload_n 2, 1) := by decide +kernel
theorem dX5_puts_2 : decode cX5_puts 2 = .ok (.bipush 32, 2) := by decide +kernel
theorem dX5_puts_4 : decode cX5_puts 4 = .ok (.irem, 1) := by decide +kernel
theorem dX5_puts_5 : decode cX5_puts 5 = .ok (.ishl, 1) := by decide +kernel
theorem dX5_puts_6 : decode cX5_puts 6 = .ok (.istore 4, 2) := by decide +kernel
theorem dX5_puts_8 : decode cX5_puts 8 = .ok (.aload_n 0, 1) := by decide +kernel
theorem dX5_puts_9 : decode cX5_puts 9 = .ok (.iload_n 1, 1) := by decide +kernel
theorem dX5_puts_10 : decode cX5_puts 10 = .ok (.bipush 11, 2) := by decide +kernel
theorem dX5_puts_12 : decode cX5_puts 12 = .ok (.iload_n 2, 1) := by decide +kernel
theorem dX5_puts_13 : decode cX5_puts 13 = .ok (.bipush 32, 2) := by decide +kernel
theorem dX5_puts_15 : decode cX5_puts 15 = .ok (.idiv, 1) := by decide +kernel
theorem dX5_puts_16 : decode cX5_puts 16 = .ok (.iadd, 1) := by decide +kernel
theorem dX5_puts_17 : decode cX5_puts 17 = .ok (.invokevirtual 43, 3) := by decide +kernel
theorem dX5_puts_20 : decode cX5_puts 20 = .ok (.istore 5, 2) := by decide +kernel
theorem dX5_puts_22 : decode cX5_puts 22 = .ok (.aload_n 0, 1) := by decide +kernel
theorem dX5_puts_23 : decode cX5_puts 23 = .ok (.iload_n 1, 1) := by decide +kernel
theorem dX5_puts_24 : decode cX5_puts 24 = .ok (.bipush 11, 2) := by decide +kernel
theorem dX5_puts_26 : decode cX5_puts 26 = .ok (.iload_n 2, 1) := by decide +kernel
theorem dX5_puts_27 : decode cX5_puts 27 = .ok (.bipush 32, 2) := by decide +kernel
theorem dX5_puts_29 : decode cX5_puts 29 = .ok (.idiv, 1) := by decide +kernel
theorem dX5_puts_30 : decode cX5_puts 30 = .ok (.iadd, 1) := by decide +kernel
theorem dX5_puts_31 : decode cX5_puts 31 = .ok (.iload_n 3, 1) := by decide +kernel
theorem dX5_puts_32 : decode cX5_puts 32 = .ok (.ifCond .eq 11, 3) := by decide +kernel
theorem dX5_puts_35 : decode cX5_puts 35 = .ok (.iload 5, 2) := by decide +kernel
theorem dX5_puts_37 : decode cX5_puts 37 = .ok (.iload 4, 2) := by decide +kernel
theorem dX5_puts_39 : decode cX5_puts 39 = .ok (.ior, 1) := by decide +kernel
theorem dX5_puts_40 : decode cX5_puts 40 = .ok (.goto 10, 3) := by decide +kernel
theorem dX5_puts_43 : decode cX5_puts 43 = .ok (.iload 5, 2) := by decide +kernel
theorem dX5_puts_45 : decode cX5_puts 45 = .ok (.iload 4, 2) := by decide +kernel
theorem dX5_puts_47 : decode cX5_puts 47 = .ok (.iconst (-1), 1) := by decide +kernel
theorem dX5_puts_48 : decode cX5_puts 48 = .ok (.ixor, 1) := by decide +kernel
theorem dX5_puts_49 : decode cX5_puts 49 = .ok (.iand, 1) := by decide +kernel
theorem dX5_puts_50 : decode cX5_puts 50 = .ok (.invokevirtual 47, 3) := by decide +kernel
theorem dX5_puts_53 : decode cX5_puts 53 = .ok (.return_, 1) := by decide +kernel
set_option maxRecDepth 20000 in
theorem ggX5_kindOf_X5_of : GoodIn wsX5_kindOf wsX5_of := goodIn_r _ [5, 6, 7, 8, 9, 10, 11, 12, 13, 14, 15, 16, 17, 18, 19] (by decide +kernel) (by decide +kernel)
set_option maxRecDepth 20000 in
theorem gX5_kindOf_X5_of : GoodIn wsX5_kindOf (wsV RX5 43 RX5 yX5_of wsX5_of) := goodIn_app (goodIn_of _ (by decide +kernel)) ggX5_kindOf_X5_of
theorem dX5_kindOf_0 : decode cX5_kindOf 0 = .ok (.aload_n 0, 1) := by decide +kernel
theorem dX5_kindOf_1 : decode cX5_kindOf 1 = .ok (.iload_n 1, 1) := by decide +kernel
theorem dX5_kindOf_2 : decode cX5_kindOf 2 = .ok (.iconst 3, 1) := by decide +kernel
theorem dX5_kindOf_3 : decode cX5_kindOf 3 = .ok (.iload_n 2, 1) := by decide +kernel
theorem dX5_kindOf_4 : decode cX5_kindOf 4 = .ok (.iadd, 1) := by decide +kernel
theorem dX5_kindOf_5 : decode cX5_kindOf 5 = .ok (.invokevirtual 43, 3) := by decide +kernel
theorem dX5_kindOf_8 : decode cX5_kindOf 8 = .ok (.iconst 1, 1) := by decide +kernel
theorem dX5_kindOf_9 : decode cX5_kindOf 9 = .ok (.isub, 1) := by decide +kernel
theorem dX5_kindOf_10 : decode cX5_kindOf 10 = .ok (.ireturn, 1) := by decide +kernel
set_option maxRecDepth 20000 in
theorem ggX5_manyIn_X5_isIn : GoodIn wsX5_manyIn wsX5_isIn := goodIn_r _ [5, 6, 7, 8, 4, 9, 10, 11, 12, 13, 14, 15, 16, 17, 18, 19, 20, 21, 22, 23] (by decide +kernel) (by decide +kernel)
set_option maxRecDepth 20000 in
theorem gX5_manyIn_X5_isIn : GoodIn wsX5_manyIn (wsV RX5 51 RX5 yX5_isIn wsX5_isIn) := goodIn_app (goodIn_of _ (by decide +kernel)) ggX5_manyIn_X5_isIn
theorem dX5_manyIn_0 : decode cX5_manyIn 0 = .ok (.iconst 0, 1) := by decide +kernel
theorem dX5_manyIn_1 : decode cX5_manyIn 1 = .ok (.istore_n 3, 1) := by decide +kernel
theorem dX5_manyIn_2 : decode cX5_manyIn 2 = .ok (.sipush 256, 3) := by decide +kernel
theorem dX5_manyIn_5 : decode cX5_manyIn 5 = .ok (.iload_n 2, 1) := by decide +kernel
theorem dX5_manyIn_6 : decode cX5_manyIn 6 = .ok (.imul, 1) := by decide +kernel
theorem dX5_manyIn_7 : decode cX5_manyIn 7 = .ok (.istore 4, 2) := by decide +kernel
theorem dX5_manyIn_9 : decode cX5_manyIn 9 = .ok (.iload 4, 2) := by decide +kernel
theorem dX5_manyIn_11 : decode cX5_manyIn 11 = .ok (.sipush 256, 3) := by decide +kernel
theorem dX5_manyIn_14 : decode cX5_manyIn 14 = .ok (.iload_n 2, 1) := by decide +kernel
theorem dX5_manyIn_15 : decode cX5_manyIn 15 = .ok (.imul, 1) := by decide +kernel
theorem dX5_manyIn_16 : decode cX5_manyIn 16 = .ok (.sipush 256, 3) := by decide +kernel
theorem dX5_manyIn_19 : decode cX5_manyIn 19 = .ok (.iadd, 1) := by decide +kernel
theorem dX5_manyIn_20 : decode cX5_manyIn 20 = .ok (.if_icmp .ge 27, 3) := by decide +kernel
theorem dX5_manyIn_23 : decode cX5_manyIn 23 = .ok (.iload_n 3, 1) := by decide +kernel
theorem dX5_manyIn_24 : decode cX5_manyIn 24 = .ok (.aload_n 0, 1) := by decide +kernel
theorem dX5_manyIn_25 : decode cX5_manyIn 25 = .ok (.iload_n 1, 1) := by decide +kernel
theorem dX5_manyIn_26 : decode cX5_manyIn 26 = .ok (.iload 4, 2) := by decide +kernel
theorem dX5_manyIn_28 : decode cX5_manyIn 28 = .ok (.invokevirtual 51, 3) := by decide +kernel
theorem dX5_manyIn_31 : decode cX5_manyIn 31 = .ok (.ifCond .eq 7, 3) := by decide +kernel
theorem dX5_manyIn_34 : decode cX5_manyIn 34 = .ok (.iconst 1, 1) := by decide +kernel
theorem dX5_manyIn_35 : decode cX5_manyIn 35 = .ok (.goto 4, 3) := by decide +kernel
theorem dX5_manyIn_38 : decode cX5_manyIn 38 = .ok (.iconst 0, 1) := by decide +kernel
theorem dX5_manyIn_39 : decode cX5_manyIn 39 = .ok (.iadd, 1) := by decide +kernel
theorem dX5_manyIn_40 : decode cX5_manyIn 40 = .ok (.istore_n 3, 1) := by decide +kernel
theorem dX5_manyIn_41 : decode cX5_manyIn 41 = .ok (.iinc 4 1, 3) := by decide +kernel
theorem dX5_manyIn_44 : decode cX5_manyIn 44 = .ok (.goto (-35), 3) := by decide +kernel
theorem dX5_manyIn_47 : decode cX5_manyIn 47 = .ok (.iload_n 3, 1) := by decide +kernel
theorem dX5_manyIn_48 : decode cX5_manyIn 48 = .ok (.ireturn, 1) := by decide +kernel
set_option maxRecDepth 20000 in
theorem ggX5_runsIn_X5_isIn : GoodIn wsX5_runsIn wsX5_isIn := goodIn_r _ [5, 6, 7, 8, 4, 9, 10, 11, 12, 13, 14, 15, 16, 17, 18, 19, 20, 21, 22, 23] (by decide +kernel) (by decide +kernel)
set_option maxRecDepth 20000 in
theorem gX5_runsIn_X5_isIn : GoodIn wsX5_runsIn (wsV RX5 51 RX5 yX5_isIn wsX5_isIn) := goodIn_app (goodIn_of _ (by decide +kernel)) ggX5_runsIn_X5_isIn
theorem dX5_runsIn_0 : decode cX5_runsIn 0 = .ok (.iconst 0, 1) := by decide +kernel
theorem dX5_runsIn_1 : decode cX5_runsIn 1 = .ok (.istore_n 3, 1) := by decide +kernel
theorem dX5_runsIn_2 : decode cX5_runsIn 2 = .ok (.sipush 256, 3) := by decide +kernel
theorem dX5_runsIn_5 : decode cX5_runsIn 5 = .ok (.iload_n 2, 1) := by decide +kernel
theorem dX5_runsIn_6 : decode cX5_runsIn 6 = .ok (.imul, 1) := by decide +kernel
theorem dX5_runsIn_7 : decode cX5_runsIn 7 = .ok (.istore 4, 2) := by decide +kernel
theorem dX5_runsIn_9 : decode cX5_runsIn 9 = .ok (.iload 4, 2) := by decide +kernel
theorem dX5_runsIn_11 : decode cX5_runsIn 11 = .ok (.sipush 256, 3) := by decide +kernel
theorem dX5_runsIn_14 : decode cX5_runsIn 14 = .ok (.iload_n 2, 1) := by decide +kernel
theorem dX5_runsIn_15 : decode cX5_runsIn 15 = .ok (.imul, 1) := by decide +kernel
theorem dX5_runsIn_16 : decode cX5_runsIn 16 = .ok (.sipush 256, 3) := by decide +kernel
theorem dX5_runsIn_19 : decode cX5_runsIn 19 = .ok (.iadd, 1) := by decide +kernel
theorem dX5_runsIn_20 : decode cX5_runsIn 20 = .ok (.if_icmp .ge 48, 3) := by decide +kernel
theorem dX5_runsIn_23 : decode cX5_runsIn 23 = .ok (.iload_n 3, 1) := by decide +kernel
theorem dX5_runsIn_24 : decode cX5_runsIn 24 = .ok (.aload_n 0, 1) := by decide +kernel
theorem dX5_runsIn_25 : decode cX5_runsIn 25 = .ok (.iload_n 1, 1) := by decide +kernel
theorem dX5_runsIn_26 : decode cX5_runsIn 26 = .ok (.iload 4, 2) := by decide +kernel
theorem dX5_runsIn_28 : decode cX5_runsIn 28 = .ok (.invokevirtual 51, 3) := by decide +kernel
theorem dX5_runsIn_31 : decode cX5_runsIn 31 = .ok (.ifCond .eq 28, 3) := by decide +kernel
theorem dX5_runsIn_34 : decode cX5_runsIn 34 = .ok (.iload 4, 2) := by decide +kernel
theorem dX5_runsIn_36 : decode cX5_runsIn 36 = .ok (.sipush 256, 3) := by decide +kernel
theorem dX5_runsIn_39 : decode cX5_runsIn 39 = .ok (.irem, 1) := by decide +kernel
theorem dX5_runsIn_40 : decode cX5_runsIn 40 = .ok (.ifCond .eq 15, 3) := by decide +kernel
theorem dX5_runsIn_43 : decode cX5_runsIn 43 = .ok (.aload_n 0, 1) := by decide +kernel
theorem dX5_runsIn_44 : decode cX5_runsIn 44 = .ok (.iload_n 1, 1) := by decide +kernel
theorem dX5_runsIn_45 : decode cX5_runsIn 45 = .ok (.iload 4, 2) := by decide +kernel
theorem dX5_runsIn_47 : decode cX5_runsIn 47 = .ok (.iconst 1, 1) := by decide +kernel
theorem dX5_runsIn_48 : decode cX5_runsIn 48 = .ok (.isub, 1) := by decide +kernel
theorem dX5_runsIn_49 : decode cX5_runsIn 49 = .ok (.invokevirtual 51, 3) := by decide +kernel
theorem dX5_runsIn_52 : decode cX5_runsIn 52 = .ok (.ifCond .ne 7, 3) := by decide +kernel
theorem dX5_runsIn_55 : decode cX5_runsIn 55 = .ok (.iconst 1, 1) := by decide +kernel
theorem dX5_runsIn_56 : decode cX5_runsIn 56 = .ok (.goto 4, 3) := by decide +kernel
theorem dX5_runsIn_59 : decode cX5_runsIn 59 = .ok (.iconst 0, 1) := by decide +kernel
theorem dX5_runsIn_60 : decode cX5_runsIn 60 = .ok (.iadd, 1) := by decide +kernel
theorem dX5_runsIn_61 : decode cX5_runsIn 61 = .ok (.istore_n 3, 1) := by decide +kernel
theorem dX5_runsIn_62 : decode cX5_runsIn 62 = .ok (.iinc 4 1, 3) := by decide +kernel
theorem dX5_runsIn_65 : decode cX5_runsIn 65 = .ok (.goto (-56), 3) := by decide +kernel
theorem dX5_runsIn_68 : decode cX5_runsIn 68 = .ok (.iload_n 3, 1) := by decide +kernel
theorem dX5_runsIn_69 : decode cX5_runsIn 69 = .ok (.ireturn, 1) := by decide +kernel
theorem dX5_holds_0 : decode cX5_holds 0 = .ok (.iload_n 0, 1) := by decide +kernel
theorem dX5_holds_1 : decode cX5_holds 1 = .ok (.ifCond .ne 17, 3) := by decide +kernel
theorem dX5_holds_4 : decode cX5_holds 4 = .ok (.iload_n 1, 1) := by decide +kernel
theorem dX5_holds_5 : decode cX5_holds 5 = .ok (.bipush 24, 2) := by decide +kernel
theorem dX5_holds_7 : decode cX5_holds 7 = .ok (.if_icmp .gt 7, 3) := by decide +kernel
theorem dX5_holds_10 : decode cX5_holds 10 = .ok (.iconst 1, 1) := by decide +kernel
theorem dX5_holds_11 : decode cX5_holds 11 = .ok (.goto 23, 3) := by decide +kernel
theorem dX5_holds_14 : decode cX5_holds 14 = .ok (.iconst 0, 1) := by decide +kernel
theorem dX5_holds_15 : decode cX5_holds 15 = .ok (.goto 19, 3) := by decide +kernel
theorem dX5_holds_18 : decode cX5_holds 18 = .ok (.iload_n 0, 1) := by decide +kernel
theorem dX5_holds_19 : decode cX5_holds 19 = .ok (.iconst 1, 1) := by decide +kernel
theorem dX5_holds_20 : decode cX5_holds 20 = .ok (.if_icmp .eq 9, 3) := by decide +kernel
theorem dX5_holds_23 : decode cX5_holds 23 = .ok (.iload_n 2, 1) := by decide +kernel
theorem dX5_holds_24 : decode cX5_holds 24 = .ok (.bipush 8, 2) := by decide +kernel
theorem dX5_holds_26 : decode cX5_holds 26 = .ok (.if_icmp .gt 7, 3) := by decide +kernel
theorem dX5_holds_29 : decode cX5_holds 29 = .ok (.iconst 1, 1) := by decide +kernel
theorem dX5_holds_30 : decode cX5_holds 30 = .ok (.goto 4, 3) := by decide +kernel
theorem dX5_holds_33 : decode cX5_holds 33 = .ok (.iconst 0, 1) := by decide +kernel
theorem dX5_holds_34 : decode cX5_holds 34 = .ok (.ireturn, 1) := by decide +kernel
theorem dX5_units_0 : decode cX5_units 0 = .ok (.iload_n 0, 1) := by decide +kernel
theorem dX5_units_1 : decode cX5_units 1 = .ok (.ifCond .ne 9, 3) := by decide +kernel
theorem dX5_units_4 : decode cX5_units 4 = .ok (.iconst 2, 1) := by decide +kernel
theorem dX5_units_5 : decode cX5_units 5 = .ok (.iload_n 1, 1) := by decide +kernel
theorem dX5_units_6 : decode cX5_units 6 = .ok (.imul, 1) := by decide +kernel
theorem dX5_units_7 : decode cX5_units 7 = .ok (.goto 16, 3) := by decide +kernel
theorem dX5_units_10 : decode cX5_units 10 = .ok (.iload_n 0, 1) := by decide +kernel
theorem dX5_units_11 : decode cX5_units 11 = .ok (.iconst 1, 1) := by decide +kernel
theorem dX5_units_12 : decode cX5_units 12 = .ok (.if_icmp .ne 8, 3) := by decide +kernel
theorem dX5_units_15 : decode cX5_units 15 = .ok (.bipush 32, 2) := by decide +kernel
theorem dX5_units_17 : decode cX5_units 17 = .ok (.goto 6, 3) := by decide +kernel
theorem dX5_units_20 : decode cX5_units 20 = .ok (.iconst 3, 1) := by decide +kernel
theorem dX5_units_21 : decode cX5_units 21 = .ok (.iload_n 2, 1) := by decide +kernel
theorem dX5_units_22 : decode cX5_units 22 = .ok (.imul, 1) := by decide +kernel
theorem dX5_units_23 : decode cX5_units 23 = .ok (.ireturn, 1) := by decide +kernel
set_option maxRecDepth 20000 in
theorem ggX5_best_X5_holds : GoodIn wsX5_best wsX5_holds := goodIn_r _ [4] (by decide +kernel) (by decide +kernel)
set_option maxRecDepth 20000 in
theorem gX5_best_X5_holds : GoodIn wsX5_best (va_wsS RX5 55 yX5_holds wsX5_holds) := goodIn_app (goodIn_of _ (by decide +kernel)) ggX5_best_X5_holds
set_option maxRecDepth 20000 in
theorem ggX5_best_X5_units : GoodIn wsX5_best wsX5_units := goodIn_r _ [7] (by decide +kernel) (by decide +kernel)
set_option maxRecDepth 20000 in
theorem gX5_best_X5_units : GoodIn wsX5_best (va_wsS RX5 58 yX5_units wsX5_units) := goodIn_app (goodIn_of _ (by decide +kernel)) ggX5_best_X5_units
theorem dX5_best_0 : decode cX5_best 0 = .ok (.iconst 1, 1) := by decide +kernel
theorem dX5_best_1 : decode cX5_best 1 = .ok (.istore_n 2, 1) := by decide +kernel
theorem dX5_best_2 : decode cX5_best 2 = .ok (.iconst 2, 1) := by decide +kernel
theorem dX5_best_3 : decode cX5_best 3 = .ok (.iload_n 0, 1) := by decide +kernel
theorem dX5_best_4 : decode cX5_best 4 = .ok (.iload_n 1, 1) := by decide +kernel
theorem dX5_best_5 : decode cX5_best 5 = .ok (.invokestatic 55, 3) := by decide +kernel
theorem dX5_best_8 : decode cX5_best 8 = .ok (.ifCond .eq 22, 3) := by decide +kernel
theorem dX5_best_11 : decode cX5_best 11 = .ok (.iconst 2, 1) := by decide +kernel
theorem dX5_best_12 : decode cX5_best 12 = .ok (.iload_n 0, 1) := by decide +kernel
theorem dX5_best_13 : decode cX5_best 13 = .ok (.iload_n 1, 1) := by decide +kernel
theorem dX5_best_14 : decode cX5_best 14 = .ok (.invokestatic 58, 3) := by decide +kernel
theorem dX5_best_17 : decode cX5_best 17 = .ok (.iload_n 2, 1) := by decide +kernel
theorem dX5_best_18 : decode cX5_best 18 = .ok (.iload_n 0, 1) := by decide +kernel
theorem dX5_best_19 : decode cX5_best 19 = .ok (.iload_n 1, 1) := by decide +kernel
theorem dX5_best_20 : decode cX5_best 20 = .ok (.invokestatic 58, 3) := by decide +kernel
theorem dX5_best_23 : decode cX5_best 23 = .ok (.if_icmp .ge 7, 3) := by decide +kernel
theorem dX5_best_26 : decode cX5_best 26 = .ok (.iconst 2, 1) := by decide +kernel
theorem dX5_best_27 : decode cX5_best 27 = .ok (.goto 4, 3) := by decide +kernel
theorem dX5_best_30 : decode cX5_best 30 = .ok (.iload_n 2, 1) := by decide +kernel
theorem dX5_best_31 : decode cX5_best 31 = .ok (.istore_n 2, 1) := by decide +kernel
theorem dX5_best_32 : decode cX5_best 32 = .ok (.iconst 0, 1) := by decide +kernel
theorem dX5_best_33 : decode cX5_best 33 = .ok (.iload_n 0, 1) := by decide +kernel
theorem dX5_best_34 : decode cX5_best 34 = .ok (.iload_n 1, 1) := by decide +kernel
theorem dX5_best_35 : decode cX5_best 35 = .ok (.invokestatic 55, 3) := by decide +kernel
theorem dX5_best_38 : decode cX5_best 38 = .ok (.ifCond .eq 22, 3) := by decide +kernel
theorem dX5_best_41 : decode cX5_best 41 = .ok (.iconst 0, 1) := by decide +kernel
theorem dX5_best_42 : decode cX5_best 42 = .ok (.iload_n 0, 1) := by decide +kernel
theorem dX5_best_43 : decode cX5_best 43 = .ok (.iload_n 1, 1) := by decide +kernel
theorem dX5_best_44 : decode cX5_best 44 = .ok (.invokestatic 58, 3) := by decide +kernel
theorem dX5_best_47 : decode cX5_best 47 = .ok (.iload_n 2, 1) := by decide +kernel
theorem dX5_best_48 : decode cX5_best 48 = .ok (.iload_n 0, 1) := by decide +kernel
theorem dX5_best_49 : decode cX5_best 49 = .ok (.iload_n 1, 1) := by decide +kernel
theorem dX5_best_50 : decode cX5_best 50 = .ok (.invokestatic 58, 3) := by decide +kernel
theorem dX5_best_53 : decode cX5_best 53 = .ok (.if_icmp .gt 7, 3) := by decide +kernel
theorem dX5_best_56 : decode cX5_best 56 = .ok (.iconst 0, 1) := by decide +kernel
theorem dX5_best_57 : decode cX5_best 57 = .ok (.goto 4, 3) := by decide +kernel
theorem dX5_best_60 : decode cX5_best 60 = .ok (.iload_n 2, 1) := by decide +kernel
theorem dX5_best_61 : decode cX5_best 61 = .ok (.ireturn, 1) := by decide +kernel
set_option maxRecDepth 20000 in
theorem ggX5_unitsOf_X5_kindOf : GoodIn wsX5_unitsOf wsX5_kindOf := goodIn_r _ [5, 6, 7, 8, 4, 9, 10, 26, 27, 28, 29, 30, 31, 32, 33, 34, 35, 36, 37, 38] (by decide +kernel) (by decide +kernel)
set_option maxRecDepth 20000 in
theorem gX5_unitsOf_X5_kindOf : GoodIn wsX5_unitsOf (wsV RX5 62 RX5 yX5_kindOf wsX5_kindOf) := goodIn_app (goodIn_of _ (by decide +kernel)) ggX5_unitsOf_X5_kindOf
set_option maxRecDepth 20000 in
theorem ggX5_unitsOf_X5_manyIn : GoodIn wsX5_unitsOf wsX5_manyIn := goodIn_r _ [14, 15, 16, 17, 4, 18, 6, 7, 8, 9, 10, 26, 27, 28, 29, 30, 31, 32, 33, 34, 35, 36, 37, 38] (by decide +kernel) (by decide +kernel)
set_option maxRecDepth 20000 in
theorem gX5_unitsOf_X5_manyIn : GoodIn wsX5_unitsOf (wsV RX5 65 RX5 yX5_manyIn wsX5_manyIn) := goodIn_app (goodIn_of _ (by decide +kernel)) ggX5_unitsOf_X5_manyIn
set_option maxRecDepth 20000 in
theorem ggX5_unitsOf_X5_runsIn : GoodIn wsX5_unitsOf wsX5_runsIn := goodIn_r _ [22, 15, 16, 17, 4, 18, 6, 7, 8, 9, 10, 26, 27, 28, 29, 30, 31, 32, 33, 34, 35, 36, 37, 38] (by decide +kernel) (by decide +kernel)
set_option maxRecDepth 20000 in
theorem gX5_unitsOf_X5_runsIn : GoodIn wsX5_unitsOf (wsV RX5 68 RX5 yX5_runsIn wsX5_runsIn) := goodIn_app (goodIn_of _ (by decide +kernel)) ggX5_unitsOf_X5_runsIn
set_option maxRecDepth 20000 in
theorem ggX5_unitsOf_X5_units : GoodIn wsX5_unitsOf wsX5_units := goodIn_r _ [25] (by decide +kernel) (by decide +kernel)
set_option maxRecDepth 20000 in
theorem gX5_unitsOf_X5_units : GoodIn wsX5_unitsOf (va_wsS RX5 58 yX5_units wsX5_units) := goodIn_app (goodIn_of _ (by decide +kernel)) ggX5_unitsOf_X5_units
theorem dX5_unitsOf_0 : decode cX5_unitsOf 0 = .ok (.aload_n 0, 1) := by decide +kernel
theorem dX5_unitsOf_1 : decode cX5_unitsOf 1 = .ok (.iload_n 1, 1) := by decide +kernel
theorem dX5_unitsOf_2 : decode cX5_unitsOf 2 = .ok (.iload_n 2, 1) := by decide +kernel
theorem dX5_unitsOf_3 : decode cX5_unitsOf 3 = .ok (.invokevirtual 62, 3) := by decide +kernel
theorem dX5_unitsOf_6 : decode cX5_unitsOf 6 = .ok (.aload_n 0, 1) := by decide +kernel
theorem dX5_unitsOf_7 : decode cX5_unitsOf 7 = .ok (.iload_n 1, 1) := by decide +kernel
theorem dX5_unitsOf_8 : decode cX5_unitsOf 8 = .ok (.iload_n 2, 1) := by decide +kernel
theorem dX5_unitsOf_9 : decode cX5_unitsOf 9 = .ok (.invokevirtual 65, 3) := by decide +kernel
theorem dX5_unitsOf_12 : decode cX5_unitsOf 12 = .ok (.aload_n 0, 1) := by decide +kernel
theorem dX5_unitsOf_13 : decode cX5_unitsOf 13 = .ok (.iload_n 1, 1) := by decide +kernel
theorem dX5_unitsOf_14 : decode cX5_unitsOf 14 = .ok (.iload_n 2, 1) := by decide +kernel
theorem dX5_unitsOf_15 : decode cX5_unitsOf 15 = .ok (.invokevirtual 68, 3) := by decide +kernel
theorem dX5_unitsOf_18 : decode cX5_unitsOf 18 = .ok (.invokestatic 58, 3) := by decide +kernel
theorem dX5_unitsOf_21 : decode cX5_unitsOf 21 = .ok (.ireturn, 1) := by decide +kernel
set_option maxRecDepth 20000 in
theorem ggX5_bestOf_X5_manyIn : GoodIn wsX5_bestOf wsX5_manyIn := goodIn_r _ [5, 6, 7, 8, 4, 9, 10, 11, 12, 13, 14, 28, 29, 30, 31, 32, 33, 34, 35, 36, 37, 38, 39, 40] (by decide +kernel) (by decide +kernel)
set_option maxRecDepth 20000 in
theorem gX5_bestOf_X5_manyIn : GoodIn wsX5_bestOf (wsV RX5 65 RX5 yX5_manyIn wsX5_manyIn) := goodIn_app (goodIn_of _ (by decide +kernel)) ggX5_bestOf_X5_manyIn
set_option maxRecDepth 20000 in
theorem ggX5_bestOf_X5_runsIn : GoodIn wsX5_bestOf wsX5_runsIn := goodIn_r _ [18, 6, 7, 8, 4, 9, 10, 11, 12, 13, 14, 28, 29, 30, 31, 32, 33, 34, 35, 36, 37, 38, 39, 40] (by decide +kernel) (by decide +kernel)
set_option maxRecDepth 20000 in
theorem gX5_bestOf_X5_runsIn : GoodIn wsX5_bestOf (wsV RX5 68 RX5 yX5_runsIn wsX5_runsIn) := goodIn_app (goodIn_of _ (by decide +kernel)) ggX5_bestOf_X5_runsIn
set_option maxRecDepth 20000 in
theorem ggX5_bestOf_X5_best : GoodIn wsX5_bestOf wsX5_best := goodIn_r _ [21, 22, 23, 4, 24, 25, 26, 27] (by decide +kernel) (by decide +kernel)
set_option maxRecDepth 20000 in
theorem gX5_bestOf_X5_best : GoodIn wsX5_bestOf (va_wsS RX5 71 yX5_best wsX5_best) := goodIn_app (goodIn_of _ (by decide +kernel)) ggX5_bestOf_X5_best
theorem dX5_bestOf_0 : decode cX5_bestOf 0 = .ok (.aload_n 0, 1) := by decide +kernel
theorem dX5_bestOf_1 : decode cX5_bestOf 1 = .ok (.iload_n 1, 1) := by decide +kernel
theorem dX5_bestOf_2 : decode cX5_bestOf 2 = .ok (.iload_n 2, 1) := by decide +kernel
theorem dX5_bestOf_3 : decode cX5_bestOf 3 = .ok (.invokevirtual 65, 3) := by decide +kernel
theorem dX5_bestOf_6 : decode cX5_bestOf 6 = .ok (.aload_n 0, 1) := by decide +kernel
theorem dX5_bestOf_7 : decode cX5_bestOf 7 = .ok (.iload_n 1, 1) := by decide +kernel
theorem dX5_bestOf_8 : decode cX5_bestOf 8 = .ok (.iload_n 2, 1) := by decide +kernel
theorem dX5_bestOf_9 : decode cX5_bestOf 9 = .ok (.invokevirtual 68, 3) := by decide +kernel
theorem dX5_bestOf_12 : decode cX5_bestOf 12 = .ok (.invokestatic 71, 3) := by decide +kernel
theorem dX5_bestOf_15 : decode cX5_bestOf 15 = .ok (.ireturn, 1) := by decide +kernel
set_option maxRecDepth 20000 in
theorem ggX5_tollOf_X5_bestOf : GoodIn wsX5_tollOf wsX5_bestOf := goodIn_r _ [5, 6, 7, 8, 4, 9, 10, 11, 12, 13, 14, 15, 16, 17, 18, 19, 20, 21, 22, 23, 24, 25, 26, 27, 28, 29, 30, 31, 36, 37, 38, 39, 40, 41, 42, 43, 44, 45, 46, 47, 48] (by decide +kernel) (by decide +kernel)
set_option maxRecDepth 20000 in
theorem gX5_tollOf_X5_bestOf : GoodIn wsX5_tollOf (wsV RX5 74 RX5 yX5_bestOf wsX5_bestOf) := goodIn_app (goodIn_of _ (by decide +kernel)) ggX5_tollOf_X5_bestOf
set_option maxRecDepth 20000 in
theorem ggX5_tollOf_X5_kindOf : GoodIn wsX5_tollOf wsX5_kindOf := goodIn_r _ [35, 14, 15, 16, 4, 17, 18, 36, 37, 38, 39, 40, 41, 42, 43, 44, 45, 46, 47, 48] (by decide +kernel) (by decide +kernel)
set_option maxRecDepth 20000 in
theorem gX5_tollOf_X5_kindOf : GoodIn wsX5_tollOf (wsV RX5 62 RX5 yX5_kindOf wsX5_kindOf) := goodIn_app (goodIn_of _ (by decide +kernel)) ggX5_tollOf_X5_kindOf
set_option maxRecDepth 20000 in
theorem ggX5_tollOf_X5_manyIn : GoodIn wsX5_tollOf wsX5_manyIn := goodIn_r _ [9, 10, 11, 12, 4, 13, 14, 15, 16, 17, 18, 36, 37, 38, 39, 40, 41, 42, 43, 44, 45, 46, 47, 48] (by decide +kernel) (by decide +kernel)
set_option maxRecDepth 20000 in
theorem gX5_tollOf_X5_manyIn : GoodIn wsX5_tollOf (wsV RX5 65 RX5 yX5_manyIn wsX5_manyIn) := goodIn_app (goodIn_of _ (by decide +kernel)) ggX5_tollOf_X5_manyIn
set_option maxRecDepth 20000 in
theorem ggX5_tollOf_X5_runsIn : GoodIn wsX5_tollOf wsX5_runsIn := goodIn_r _ [22, 10, 11, 12, 4, 13, 14, 15, 16, 17, 18, 36, 37, 38, 39, 40, 41, 42, 43, 44, 45, 46, 47, 48] (by decide +kernel) (by decide +kernel)
set_option maxRecDepth 20000 in
theorem gX5_tollOf_X5_runsIn : GoodIn wsX5_tollOf (wsV RX5 68 RX5 yX5_runsIn wsX5_runsIn) := goodIn_app (goodIn_of _ (by decide +kernel)) ggX5_tollOf_X5_runsIn
set_option maxRecDepth 20000 in
theorem ggX5_tollOf_X5_units : GoodIn wsX5_tollOf wsX5_units := goodIn_r _ [31] (by decide +kernel) (by decide +kernel)
set_option maxRecDepth 20000 in
theorem gX5_tollOf_X5_units : GoodIn wsX5_tollOf (va_wsS RX5 58 yX5_units wsX5_units) := goodIn_app (goodIn_of _ (by decide +kernel)) ggX5_tollOf_X5_units
theorem dX5_tollOf_0 : decode cX5_tollOf 0 = .ok (.aload_n 0, 1) := by decide +kernel
theorem dX5_tollOf_1 : decode cX5_tollOf 1 = .ok (.iload_n 1, 1) := by decide +kernel
theorem dX5_tollOf_2 : decode cX5_tollOf 2 = .ok (.iload_n 2, 1) := by decide +kernel
theorem dX5_tollOf_3 : decode cX5_tollOf 3 = .ok (.invokevirtual 74, 3) := by decide +kernel
theorem dX5_tollOf_6 : decode cX5_tollOf 6 = .ok (.istore_n 3, 1) := by decide +kernel
theorem dX5_tollOf_7 : decode cX5_tollOf 7 = .ok (.iload_n 3, 1) := by decide +kernel
theorem dX5_tollOf_8 : decode cX5_tollOf 8 = .ok (.aload_n 0, 1) := by decide +kernel
theorem dX5_tollOf_9 : decode cX5_tollOf 9 = .ok (.iload_n 1, 1) := by decide +kernel
theorem dX5_tollOf_10 : decode cX5_tollOf 10 = .ok (.iload_n 2, 1) := by decide +kernel
theorem dX5_tollOf_11 : decode cX5_tollOf 11 = .ok (.invokevirtual 62, 3) := by decide +kernel
theorem dX5_tollOf_14 : decode cX5_tollOf 14 = .ok (.if_icmp .ne 7, 3) := by decide +kernel
theorem dX5_tollOf_17 : decode cX5_tollOf 17 = .ok (.iconst 0, 1) := by decide +kernel
theorem dX5_tollOf_18 : decode cX5_tollOf 18 = .ok (.goto 19, 3) := by decide +kernel
theorem dX5_tollOf_21 : decode cX5_tollOf 21 = .ok (.iload_n 3, 1) := by decide +kernel
theorem dX5_tollOf_22 : decode cX5_tollOf 22 = .ok (.aload_n 0, 1) := by decide +kernel
theorem dX5_tollOf_23 : decode cX5_tollOf 23 = .ok (.iload_n 1, 1) := by decide +kernel
theorem dX5_tollOf_24 : decode cX5_tollOf 24 = .ok (.iload_n 2, 1) := by decide +kernel
theorem dX5_tollOf_25 : decode cX5_tollOf 25 = .ok (.invokevirtual 65, 3) := by decide +kernel
theorem dX5_tollOf_28 : decode cX5_tollOf 28 = .ok (.aload_n 0, 1) := by decide +kernel
theorem dX5_tollOf_29 : decode cX5_tollOf 29 = .ok (.iload_n 1, 1) := by decide +kernel
theorem dX5_tollOf_30 : decode cX5_tollOf 30 = .ok (.iload_n 2, 1) := by decide +kernel
theorem dX5_tollOf_31 : decode cX5_tollOf 31 = .ok (.invokevirtual 68, 3) := by decide +kernel
theorem dX5_tollOf_34 : decode cX5_tollOf 34 = .ok (.invokestatic 58, 3) := by decide +kernel
theorem dX5_tollOf_37 : decode cX5_tollOf 37 = .ok (.ireturn, 1) := by decide +kernel
set_option maxRecDepth 20000 in
theorem ggX5_becomes_X5_tollOf : GoodIn wsX5_becomes wsX5_tollOf := goodIn_r _ [5, 6, 7, 8, 4, 9, 10, 11, 12, 13, 14, 15, 16, 17, 18, 19, 20, 21, 22, 23, 24, 25, 26, 27, 28, 29, 30, 31, 32, 33, 34, 35, 36, 37, 38, 39, 44, 45, 46, 47, 48, 49, 50, 51, 52, 53, 54, 55, 56] (by decide +kernel) (by decide +kernel)
set_option maxRecDepth 20000 in
theorem gX5_becomes_X5_tollOf : GoodIn wsX5_becomes (wsV RX5 77 RX5 yX5_tollOf wsX5_tollOf) := goodIn_app (goodIn_of _ (by decide +kernel)) ggX5_becomes_X5_tollOf
set_option maxRecDepth 20000 in
theorem ggX5_becomes_X5_bestOf : GoodIn wsX5_becomes wsX5_bestOf := goodIn_r _ [9, 10, 11, 12, 4, 13, 14, 15, 16, 17, 18, 19, 20, 21, 22, 23, 24, 25, 26, 27, 28, 29, 30, 31, 32, 33, 34, 35, 44, 45, 46, 47, 48, 49, 50, 51, 52, 53, 54, 55, 56] (by decide +kernel) (by decide +kernel)
set_option maxRecDepth 20000 in
theorem gX5_becomes_X5_bestOf : GoodIn wsX5_becomes (wsV RX5 74 RX5 yX5_bestOf wsX5_bestOf) := goodIn_app (goodIn_of _ (by decide +kernel)) ggX5_becomes_X5_bestOf
set_option maxRecDepth 20000 in
theorem ggX5_becomes_X5_lays : GoodIn wsX5_becomes wsX5_lays := goodIn_r _ [43, 22, 44, 45, 46, 47, 48, 49, 50, 51, 52, 53, 54, 55, 56] (by decide +kernel) (by decide +kernel)
set_option maxRecDepth 20000 in
theorem gX5_becomes_X5_lays : GoodIn wsX5_becomes (wsV RX5 47 RX5 yX5_lays wsX5_lays) := goodIn_app (goodIn_of _ (by decide +kernel)) ggX5_becomes_X5_lays
set_option maxRecDepth 20000 in
theorem ggX5_becomes_X5_of : GoodIn wsX5_becomes wsX5_of := goodIn_r _ [21, 22, 44, 45, 46, 47, 48, 49, 50, 51, 52, 53, 54, 55, 56] (by decide +kernel) (by decide +kernel)
set_option maxRecDepth 20000 in
theorem gX5_becomes_X5_of : GoodIn wsX5_becomes (wsV RX5 43 RX5 yX5_of wsX5_of) := goodIn_app (goodIn_of _ (by decide +kernel)) ggX5_becomes_X5_of
theorem dX5_becomes_0 : decode cX5_becomes 0 = .ok (.aload_n 0, 1) := by decide +kernel
theorem dX5_becomes_1 : decode cX5_becomes 1 = .ok (.iload_n 1, 1) := by decide +kernel
theorem dX5_becomes_2 : decode cX5_becomes 2 = .ok (.iload_n 2, 1) := by decide +kernel
theorem dX5_becomes_3 : decode cX5_becomes 3 = .ok (.invokevirtual 77, 3) := by decide +kernel
theorem dX5_becomes_6 : decode cX5_becomes 6 = .ok (.istore_n 3, 1) := by decide +kernel
theorem dX5_becomes_7 : decode cX5_becomes 7 = .ok (.aload_n 0, 1) := by decide +kernel
theorem dX5_becomes_8 : decode cX5_becomes 8 = .ok (.iload_n 1, 1) := by decide +kernel
theorem dX5_becomes_9 : decode cX5_becomes 9 = .ok (.iconst 3, 1) := by decide +kernel
theorem dX5_becomes_10 : decode cX5_becomes 10 = .ok (.iload_n 2, 1) := by decide +kernel
theorem dX5_becomes_11 : decode cX5_becomes 11 = .ok (.iadd, 1) := by decide +kernel
theorem dX5_becomes_12 : decode cX5_becomes 12 = .ok (.aload_n 0, 1) := by decide +kernel
theorem dX5_becomes_13 : decode cX5_becomes 13 = .ok (.iload_n 1, 1) := by decide +kernel
theorem dX5_becomes_14 : decode cX5_becomes 14 = .ok (.iload_n 2, 1) := by decide +kernel
theorem dX5_becomes_15 : decode cX5_becomes 15 = .ok (.invokevirtual 74, 3) := by decide +kernel
theorem dX5_becomes_18 : decode cX5_becomes 18 = .ok (.iconst 1, 1) := by decide +kernel
theorem dX5_becomes_19 : decode cX5_becomes 19 = .ok (.iadd, 1) := by decide +kernel
theorem dX5_becomes_20 : decode cX5_becomes 20 = .ok (.invokevirtual 47, 3) := by decide +kernel
theorem dX5_becomes_23 : decode cX5_becomes 23 = .ok (.aload_n 0, 1) := by decide +kernel
theorem dX5_becomes_24 : decode cX5_becomes 24 = .ok (.iload_n 1, 1) := by decide +kernel
theorem dX5_becomes_25 : decode cX5_becomes 25 = .ok (.iconst 0, 1) := by decide +kernel
theorem dX5_becomes_26 : decode cX5_becomes 26 = .ok (.aload_n 0, 1) := by decide +kernel
theorem dX5_becomes_27 : decode cX5_becomes 27 = .ok (.iload_n 1, 1) := by decide +kernel
theorem dX5_becomes_28 : decode cX5_becomes 28 = .ok (.iconst 0, 1) := by decide +kernel
theorem dX5_becomes_29 : decode cX5_becomes 29 = .ok (.invokevirtual 43, 3) := by decide +kernel
theorem dX5_becomes_32 : decode cX5_becomes 32 = .ok (.iload_n 3, 1) := by decide +kernel
theorem dX5_becomes_33 : decode cX5_becomes 33 = .ok (.isub, 1) := by decide +kernel
theorem dX5_becomes_34 : decode cX5_becomes 34 = .ok (.invokevirtual 47, 3) := by decide +kernel
theorem dX5_becomes_37 : decode cX5_becomes 37 = .ok (.aload_n 0, 1) := by decide +kernel
theorem dX5_becomes_38 : decode cX5_becomes 38 = .ok (.iload_n 1, 1) := by decide +kernel
theorem dX5_becomes_39 : decode cX5_becomes 39 = .ok (.iconst 2, 1) := by decide +kernel
theorem dX5_becomes_40 : decode cX5_becomes 40 = .ok (.aload_n 0, 1) := by decide +kernel
theorem dX5_becomes_41 : decode cX5_becomes 41 = .ok (.iload_n 1, 1) := by decide +kernel
theorem dX5_becomes_42 : decode cX5_becomes 42 = .ok (.iconst 2, 1) := by decide +kernel
theorem dX5_becomes_43 : decode cX5_becomes 43 = .ok (.invokevirtual 43, 3) := by decide +kernel
theorem dX5_becomes_46 : decode cX5_becomes 46 = .ok (.iload_n 3, 1) := by decide +kernel
theorem dX5_becomes_47 : decode cX5_becomes 47 = .ok (.iadd, 1) := by decide +kernel
theorem dX5_becomes_48 : decode cX5_becomes 48 = .ok (.invokevirtual 47, 3) := by decide +kernel
theorem dX5_becomes_51 : decode cX5_becomes 51 = .ok (.return_, 1) := by decide +kernel
set_option maxRecDepth 20000 in
theorem ggX5_goes_X5_puts : GoodIn wsX5_goes wsX5_puts := goodIn_r _ [5, 6, 7, 8, 4, 9, 10, 11, 12, 13, 14, 52, 53, 54, 55, 56, 57, 58, 59, 60, 61, 62, 63, 64] (by decide +kernel) (by decide +kernel)
set_option maxRecDepth 20000 in
theorem gX5_goes_X5_puts : GoodIn wsX5_goes (wsV RX5 80 RX5 yX5_puts wsX5_puts) := goodIn_app (goodIn_of _ (by decide +kernel)) ggX5_goes_X5_puts
set_option maxRecDepth 20000 in
theorem ggX5_goes_X5_kindOf : GoodIn wsX5_goes wsX5_kindOf := goodIn_r _ [18, 6, 7, 8, 4, 9, 10, 52, 53, 54, 55, 56, 57, 58, 59, 60, 61, 62, 63, 64] (by decide +kernel) (by decide +kernel)
set_option maxRecDepth 20000 in
theorem gX5_goes_X5_kindOf : GoodIn wsX5_goes (wsV RX5 62 RX5 yX5_kindOf wsX5_kindOf) := goodIn_app (goodIn_of _ (by decide +kernel)) ggX5_goes_X5_kindOf
set_option maxRecDepth 20000 in
theorem ggX5_goes_X5_lays : GoodIn wsX5_goes wsX5_lays := goodIn_r _ [14, 10, 52, 53, 54, 55, 56, 57, 58, 59, 60, 61, 62, 63, 64] (by decide +kernel) (by decide +kernel)
set_option maxRecDepth 20000 in
theorem gX5_goes_X5_lays : GoodIn wsX5_goes (wsV RX5 47 RX5 yX5_lays wsX5_lays) := goodIn_app (goodIn_of _ (by decide +kernel)) ggX5_goes_X5_lays
set_option maxRecDepth 20000 in
theorem ggX5_goes_X5_manyIn : GoodIn wsX5_goes wsX5_manyIn := goodIn_r _ [22, 23, 24, 25, 4, 26, 6, 7, 8, 9, 10, 52, 53, 54, 55, 56, 57, 58, 59, 60, 61, 62, 63, 64] (by decide +kernel) (by decide +kernel)
set_option maxRecDepth 20000 in
theorem gX5_goes_X5_manyIn : GoodIn wsX5_goes (wsV RX5 65 RX5 yX5_manyIn wsX5_manyIn) := goodIn_app (goodIn_of _ (by decide +kernel)) ggX5_goes_X5_manyIn
set_option maxRecDepth 20000 in
theorem ggX5_goes_X5_of : GoodIn wsX5_goes wsX5_of := goodIn_r _ [9, 10, 52, 53, 54, 55, 56, 57, 58, 59, 60, 61, 62, 63, 64] (by decide +kernel) (by decide +kernel)
set_option maxRecDepth 20000 in
theorem gX5_goes_X5_of : GoodIn wsX5_goes (wsV RX5 43 RX5 yX5_of wsX5_of) := goodIn_app (goodIn_of _ (by decide +kernel)) ggX5_goes_X5_of
set_option maxRecDepth 20000 in
theorem ggX5_goes_X5_bestOf : GoodIn wsX5_goes wsX5_bestOf := goodIn_r _ [30, 19, 20, 21, 4, 22, 23, 24, 25, 26, 6, 7, 8, 9, 10, 31, 32, 33, 34, 35, 36, 37, 38, 39, 40, 41, 42, 43, 52, 53, 54, 55, 56, 57, 58, 59, 60, 61, 62, 63, 64] (by decide +kernel) (by decide +kernel)
set_option maxRecDepth 20000 in
theorem gX5_goes_X5_bestOf : GoodIn wsX5_goes (wsV RX5 74 RX5 yX5_bestOf wsX5_bestOf) := goodIn_app (goodIn_of _ (by decide +kernel)) ggX5_goes_X5_bestOf
set_option maxRecDepth 20000 in
theorem ggX5_goes_X5_tollOf : GoodIn wsX5_goes wsX5_tollOf := goodIn_r _ [47, 27, 28, 29, 4, 30, 19, 20, 21, 22, 23, 24, 25, 26, 6, 7, 8, 9, 10, 31, 32, 33, 34, 35, 36, 37, 38, 39, 40, 41, 42, 43, 15, 16, 17, 18, 52, 53, 54, 55, 56, 57, 58, 59, 60, 61, 62, 63, 64] (by decide +kernel) (by decide +kernel)
set_option maxRecDepth 20000 in
theorem gX5_goes_X5_tollOf : GoodIn wsX5_goes (wsV RX5 77 RX5 yX5_tollOf wsX5_tollOf) := goodIn_app (goodIn_of _ (by decide +kernel)) ggX5_goes_X5_tollOf
set_option maxRecDepth 20000 in
theorem ggX5_goes_X5_becomes : GoodIn wsX5_goes wsX5_becomes := goodIn_r _ [51, 44, 45, 46, 4, 47, 27, 28, 29, 30, 19, 20, 21, 22, 23, 24, 25, 26, 6, 7, 8, 9, 10, 31, 32, 33, 34, 35, 36, 37, 38, 39, 40, 41, 42, 43, 15, 16, 17, 18, 11, 12, 13, 14, 52, 53, 54, 55, 56, 57, 58, 59, 60, 61, 62, 63, 64] (by decide +kernel) (by decide +kernel)
set_option maxRecDepth 20000 in
theorem gX5_goes_X5_becomes : GoodIn wsX5_goes (wsV RX5 84 RX5 yX5_becomes wsX5_becomes) := goodIn_app (goodIn_of _ (by decide +kernel)) ggX5_goes_X5_becomes
set_option maxRecDepth 20000 in
theorem ggX5_goes_X5_runsIn : GoodIn wsX5_goes wsX5_runsIn := goodIn_r _ [34, 23, 24, 25, 4, 26, 6, 7, 8, 9, 10, 52, 53, 54, 55, 56, 57, 58, 59, 60, 61, 62, 63, 64] (by decide +kernel) (by decide +kernel)
set_option maxRecDepth 20000 in
theorem gX5_goes_X5_runsIn : GoodIn wsX5_goes (wsV RX5 68 RX5 yX5_runsIn wsX5_runsIn) := goodIn_app (goodIn_of _ (by decide +kernel)) ggX5_goes_X5_runsIn
set_option maxRecDepth 20000 in
theorem ggX5_goes_X5_holds : GoodIn wsX5_goes wsX5_holds := goodIn_r _ [40] (by decide +kernel) (by decide +kernel)
set_option maxRecDepth 20000 in
theorem gX5_goes_X5_holds : GoodIn wsX5_goes (va_wsS RX5 55 yX5_holds wsX5_holds) := goodIn_app (goodIn_of _ (by decide +kernel)) ggX5_goes_X5_holds
theorem dX5_goes_0 : decode cX5_goes 0 = .ok (.iload_n 2, 1) := by decide +kernel
theorem dX5_goes_1 : decode cX5_goes 1 = .ok (.sipush 256, 3) := by decide +kernel
theorem dX5_goes_4 : decode cX5_goes 4 = .ok (.idiv, 1) := by decide +kernel
theorem dX5_goes_5 : decode cX5_goes 5 = .ok (.istore 4, 2) := by decide +kernel
theorem dX5_goes_7 : decode cX5_goes 7 = .ok (.aload_n 0, 1) := by decide +kernel
theorem dX5_goes_8 : decode cX5_goes 8 = .ok (.iload_n 1, 1) := by decide +kernel
theorem dX5_goes_9 : decode cX5_goes 9 = .ok (.iload_n 2, 1) := by decide +kernel
theorem dX5_goes_10 : decode cX5_goes 10 = .ok (.iload_n 3, 1) := by decide +kernel
theorem dX5_goes_11 : decode cX5_goes 11 = .ok (.invokevirtual 80, 3) := by decide +kernel
theorem dX5_goes_14 : decode cX5_goes 14 = .ok (.aload_n 0, 1) := by decide +kernel
theorem dX5_goes_15 : decode cX5_goes 15 = .ok (.iload_n 1, 1) := by decide +kernel
theorem dX5_goes_16 : decode cX5_goes 16 = .ok (.iload 4, 2) := by decide +kernel
theorem dX5_goes_18 : decode cX5_goes 18 = .ok (.invokevirtual 62, 3) := by decide +kernel
theorem dX5_goes_21 : decode cX5_goes 21 = .ok (.ifCond .ge 13, 3) := by decide +kernel
theorem dX5_goes_24 : decode cX5_goes 24 = .ok (.aload_n 0, 1) := by decide +kernel
theorem dX5_goes_25 : decode cX5_goes 25 = .ok (.iload_n 1, 1) := by decide +kernel
theorem dX5_goes_26 : decode cX5_goes 26 = .ok (.iconst 3, 1) := by decide +kernel
theorem dX5_goes_27 : decode cX5_goes 27 = .ok (.iload 4, 2) := by decide +kernel
theorem dX5_goes_29 : decode cX5_goes 29 = .ok (.iadd, 1) := by decide +kernel
theorem dX5_goes_30 : decode cX5_goes 30 = .ok (.iconst 1, 1) := by decide +kernel
theorem dX5_goes_31 : decode cX5_goes 31 = .ok (.invokevirtual 47, 3) := by decide +kernel
theorem dX5_goes_34 : decode cX5_goes 34 = .ok (.aload_n 0, 1) := by decide +kernel
theorem dX5_goes_35 : decode cX5_goes 35 = .ok (.iload_n 1, 1) := by decide +kernel
theorem dX5_goes_36 : decode cX5_goes 36 = .ok (.iload 4, 2) := by decide +kernel
theorem dX5_goes_38 : decode cX5_goes 38 = .ok (.invokevirtual 65, 3) := by decide +kernel
theorem dX5_goes_41 : decode cX5_goes 41 = .ok (.ifCond .ne 15, 3) := by decide +kernel
theorem dX5_goes_44 : decode cX5_goes 44 = .ok (.aload_n 0, 1) := by decide +kernel
theorem dX5_goes_45 : decode cX5_goes 45 = .ok (.iload_n 1, 1) := by decide +kernel
theorem dX5_goes_46 : decode cX5_goes 46 = .ok (.iconst 3, 1) := by decide +kernel
theorem dX5_goes_47 : decode cX5_goes 47 = .ok (.iload 4, 2) := by decide +kernel
theorem dX5_goes_49 : decode cX5_goes 49 = .ok (.iadd, 1) := by decide +kernel
theorem dX5_goes_50 : decode cX5_goes 50 = .ok (.iconst 0, 1) := by decide +kernel
theorem dX5_goes_51 : decode cX5_goes 51 = .ok (.invokevirtual 47, 3) := by decide +kernel
theorem dX5_goes_54 : decode cX5_goes 54 = .ok (.iconst 1, 1) := by decide +kernel
theorem dX5_goes_55 : decode cX5_goes 55 = .ok (.ireturn, 1) := by decide +kernel
theorem dX5_goes_56 : decode cX5_goes 56 = .ok (.aload_n 0, 1) := by decide +kernel
theorem dX5_goes_57 : decode cX5_goes 57 = .ok (.iload_n 1, 1) := by decide +kernel
theorem dX5_goes_58 : decode cX5_goes 58 = .ok (.iconst 1, 1) := by decide +kernel
theorem dX5_goes_59 : decode cX5_goes 59 = .ok (.invokevirtual 43, 3) := by decide +kernel
theorem dX5_goes_62 : decode cX5_goes 62 = .ok (.ifCond .ne 43, 3) := by decide +kernel
theorem dX5_goes_65 : decode cX5_goes 65 = .ok (.aload_n 0, 1) := by decide +kernel
theorem dX5_goes_66 : decode cX5_goes 66 = .ok (.iload_n 1, 1) := by decide +kernel
theorem dX5_goes_67 : decode cX5_goes 67 = .ok (.iload 4, 2) := by decide +kernel
theorem dX5_goes_69 : decode cX5_goes 69 = .ok (.invokevirtual 74, 3) := by decide +kernel
theorem dX5_goes_72 : decode cX5_goes 72 = .ok (.aload_n 0, 1) := by decide +kernel
theorem dX5_goes_73 : decode cX5_goes 73 = .ok (.iload_n 1, 1) := by decide +kernel
theorem dX5_goes_74 : decode cX5_goes 74 = .ok (.iload 4, 2) := by decide +kernel
theorem dX5_goes_76 : decode cX5_goes 76 = .ok (.invokevirtual 62, 3) := by decide +kernel
theorem dX5_goes_79 : decode cX5_goes 79 = .ok (.if_icmp .eq 26, 3) := by decide +kernel
theorem dX5_goes_82 : decode cX5_goes 82 = .ok (.aload_n 0, 1) := by decide +kernel
theorem dX5_goes_83 : decode cX5_goes 83 = .ok (.iload_n 1, 1) := by decide +kernel
theorem dX5_goes_84 : decode cX5_goes 84 = .ok (.iconst 0, 1) := by decide +kernel
theorem dX5_goes_85 : decode cX5_goes 85 = .ok (.invokevirtual 43, 3) := by decide +kernel
theorem dX5_goes_88 : decode cX5_goes 88 = .ok (.aload_n 0, 1) := by decide +kernel
theorem dX5_goes_89 : decode cX5_goes 89 = .ok (.iload_n 1, 1) := by decide +kernel
theorem dX5_goes_90 : decode cX5_goes 90 = .ok (.iload 4, 2) := by decide +kernel
theorem dX5_goes_92 : decode cX5_goes 92 = .ok (.invokevirtual 77, 3) := by decide +kernel
theorem dX5_goes_95 : decode cX5_goes 95 = .ok (.if_icmp .lt 10, 3) := by decide +kernel
theorem dX5_goes_98 : decode cX5_goes 98 = .ok (.aload_n 0, 1) := by decide +kernel
theorem dX5_goes_99 : decode cX5_goes 99 = .ok (.iload_n 1, 1) := by decide +kernel
theorem dX5_goes_100 : decode cX5_goes 100 = .ok (.iload 4, 2) := by decide +kernel
theorem dX5_goes_102 : decode cX5_goes 102 = .ok (.invokevirtual 84, 3) := by decide +kernel
theorem dX5_goes_105 : decode cX5_goes 105 = .ok (.aload_n 0, 1) := by decide +kernel
theorem dX5_goes_106 : decode cX5_goes 106 = .ok (.iload_n 1, 1) := by decide +kernel
theorem dX5_goes_107 : decode cX5_goes 107 = .ok (.iload 4, 2) := by decide +kernel
theorem dX5_goes_109 : decode cX5_goes 109 = .ok (.invokevirtual 62, 3) := by decide +kernel
theorem dX5_goes_112 : decode cX5_goes 112 = .ok (.aload_n 0, 1) := by decide +kernel
theorem dX5_goes_113 : decode cX5_goes 113 = .ok (.iload_n 1, 1) := by decide +kernel
theorem dX5_goes_114 : decode cX5_goes 114 = .ok (.iload 4, 2) := by decide +kernel
theorem dX5_goes_116 : decode cX5_goes 116 = .ok (.invokevirtual 65, 3) := by decide +kernel
theorem dX5_goes_119 : decode cX5_goes 119 = .ok (.aload_n 0, 1) := by decide +kernel
theorem dX5_goes_120 : decode cX5_goes 120 = .ok (.iload_n 1, 1) := by decide +kernel
theorem dX5_goes_121 : decode cX5_goes 121 = .ok (.iload 4, 2) := by decide +kernel
theorem dX5_goes_123 : decode cX5_goes 123 = .ok (.invokevirtual 68, 3) := by decide +kernel
theorem dX5_goes_126 : decode cX5_goes 126 = .ok (.invokestatic 55, 3) := by decide +kernel
theorem dX5_goes_129 : decode cX5_goes 129 = .ok (.ireturn, 1) := by decide +kernel
set_option maxRecDepth 20000 in
theorem ggX5_newSet_X5_in : GoodIn wsX5_newSet wsX5_in := goodIn_r _ [5] (by decide +kernel) (by decide +kernel)
set_option maxRecDepth 20000 in
theorem gX5_newSet_X5_in : GoodIn wsX5_newSet (va_wsS RX5 39 yX5_in wsX5_in) := goodIn_app (goodIn_of _ (by decide +kernel)) ggX5_newSet_X5_in
set_option maxRecDepth 20000 in
theorem ggX5_newSet_X5_records : GoodIn wsX5_newSet wsX5_records := goodIn_r _ [9, 10, 11, 12, 13, 4, 14, 19, 20, 21, 22, 23, 24, 25, 26, 27, 28, 29, 30, 31] (by decide +kernel) (by decide +kernel)
set_option maxRecDepth 20000 in
theorem gX5_newSet_X5_records : GoodIn wsX5_newSet (wsV RX5 88 RX5 yX5_records wsX5_records) := goodIn_app (goodIn_of _ (by decide +kernel)) ggX5_newSet_X5_records
set_option maxRecDepth 20000 in
theorem ggX5_newSet_X5_lays : GoodIn wsX5_newSet wsX5_lays := goodIn_r _ [18, 1, 19, 20, 21, 22, 23, 24, 25, 26, 27, 28, 29, 30, 31] (by decide +kernel) (by decide +kernel)
set_option maxRecDepth 20000 in
theorem gX5_newSet_X5_lays : GoodIn wsX5_newSet (wsV RX5 47 RX5 yX5_lays wsX5_lays) := goodIn_app (goodIn_of _ (by decide +kernel)) ggX5_newSet_X5_lays
theorem dX5_newSet_0 : decode cX5_newSet 0 = .ok (.iload_n 1, 1) := by decide +kernel
theorem dX5_newSet_1 : decode cX5_newSet 1 = .ok (.iconst 0, 1) := by decide +kernel
theorem dX5_newSet_2 : decode cX5_newSet 2 = .ok (.sipush 9999, 3) := by decide +kernel
theorem dX5_newSet_5 : decode cX5_newSet 5 = .ok (.invokestatic 39, 3) := by decide +kernel
theorem dX5_newSet_8 : decode cX5_newSet 8 = .ok (.ifCond .ne 6, 3) := by decide +kernel
theorem dX5_newSet_11 : decode cX5_newSet 11 = .ok (.bipush (-2), 2) := by decide +kernel
theorem dX5_newSet_13 : decode cX5_newSet 13 = .ok (.ireturn, 1) := by decide +kernel
theorem dX5_newSet_14 : decode cX5_newSet 14 = .ok (.aload_n 0, 1) := by decide +kernel
theorem dX5_newSet_15 : decode cX5_newSet 15 = .ok (.getfield 7, 3) := by decide +kernel
theorem dX5_newSet_18 : decode cX5_newSet 18 = .ok (.iconst 0, 1) := by decide +kernel
theorem dX5_newSet_19 : decode cX5_newSet 19 = .ok (.iaload, 1) := by decide +kernel
theorem dX5_newSet_20 : decode cX5_newSet 20 = .ok (.bipush 6, 2) := by decide +kernel
theorem dX5_newSet_22 : decode cX5_newSet 22 = .ok (.if_icmp .ne 6, 3) := by decide +kernel
theorem dX5_newSet_25 : decode cX5_newSet 25 = .ok (.bipush (-3), 2) := by decide +kernel
theorem dX5_newSet_27 : decode cX5_newSet 27 = .ok (.ireturn, 1) := by decide +kernel
theorem dX5_newSet_28 : decode cX5_newSet 28 = .ok (.aload_n 0, 1) := by decide +kernel
theorem dX5_newSet_29 : decode cX5_newSet 29 = .ok (.aload_n 0, 1) := by decide +kernel
theorem dX5_newSet_30 : decode cX5_newSet 30 = .ok (.getfield 7, 3) := by decide +kernel
theorem dX5_newSet_33 : decode cX5_newSet 33 = .ok (.invokevirtual 88, 3) := by decide +kernel
theorem dX5_newSet_36 : decode cX5_newSet 36 = .ok (.aload_n 0, 1) := by decide +kernel
theorem dX5_newSet_37 : decode cX5_newSet 37 = .ok (.aload_n 0, 1) := by decide +kernel
theorem dX5_newSet_38 : decode cX5_newSet 38 = .ok (.getfield 7, 3) := by decide +kernel
theorem dX5_newSet_41 : decode cX5_newSet 41 = .ok (.iconst 0, 1) := by decide +kernel
theorem dX5_newSet_42 : decode cX5_newSet 42 = .ok (.iaload, 1) := by decide +kernel
theorem dX5_newSet_43 : decode cX5_newSet 43 = .ok (.iconst 0, 1) := by decide +kernel
theorem dX5_newSet_44 : decode cX5_newSet 44 = .ok (.iload_n 1, 1) := by decide +kernel
theorem dX5_newSet_45 : decode cX5_newSet 45 = .ok (.invokevirtual 47, 3) := by decide +kernel
theorem dX5_newSet_48 : decode cX5_newSet 48 = .ok (.aload_n 0, 1) := by decide +kernel
theorem dX5_newSet_49 : decode cX5_newSet 49 = .ok (.getfield 7, 3) := by decide +kernel
theorem dX5_newSet_52 : decode cX5_newSet 52 = .ok (.iconst 0, 1) := by decide +kernel
theorem dX5_newSet_53 : decode cX5_newSet 53 = .ok (.dup2, 1) := by decide +kernel
theorem dX5_newSet_54 : decode cX5_newSet 54 = .ok (.iaload, 1) := by decide +kernel
theorem dX5_newSet_55 : decode cX5_newSet 55 = .ok (.iconst 1, 1) := by decide +kernel
theorem dX5_newSet_56 : decode cX5_newSet 56 = .ok (.iadd, 1) := by decide +kernel
theorem dX5_newSet_57 : decode cX5_newSet 57 = .ok (.iastore, 1) := by decide +kernel
theorem dX5_newSet_58 : decode cX5_newSet 58 = .ok (.aload_n 0, 1) := by decide +kernel
theorem dX5_newSet_59 : decode cX5_newSet 59 = .ok (.getfield 7, 3) := by decide +kernel
theorem dX5_newSet_62 : decode cX5_newSet 62 = .ok (.iconst 0, 1) := by decide +kernel
theorem dX5_newSet_63 : decode cX5_newSet 63 = .ok (.iaload, 1) := by decide +kernel
theorem dX5_newSet_64 : decode cX5_newSet 64 = .ok (.iconst 1, 1) := by decide +kernel
theorem dX5_newSet_65 : decode cX5_newSet 65 = .ok (.isub, 1) := by decide +kernel
theorem dX5_newSet_66 : decode cX5_newSet 66 = .ok (.ireturn, 1) := by decide +kernel
set_option maxRecDepth 20000 in
theorem ggX5_pay_X5_isSet : GoodIn wsX5_pay wsX5_isSet := goodIn_r _ [6, 1, 7, 8, 5, 9, 27, 28, 29, 30, 31, 32, 33, 34, 35, 36, 37, 38, 39] (by decide +kernel) (by decide +kernel)
set_option maxRecDepth 20000 in
theorem gX5_pay_X5_isSet : GoodIn wsX5_pay (wsV RX5 92 RX5 yX5_isSet wsX5_isSet) := goodIn_app (goodIn_of _ (by decide +kernel)) ggX5_pay_X5_isSet
set_option maxRecDepth 20000 in
theorem ggX5_pay_X5_in : GoodIn wsX5_pay wsX5_in := goodIn_r _ [9] (by decide +kernel) (by decide +kernel)
set_option maxRecDepth 20000 in
theorem gX5_pay_X5_in : GoodIn wsX5_pay (va_wsS RX5 39 yX5_in wsX5_in) := goodIn_app (goodIn_of _ (by decide +kernel)) ggX5_pay_X5_in
set_option maxRecDepth 20000 in
theorem ggX5_pay_X5_of : GoodIn wsX5_pay wsX5_of := goodIn_r _ [13, 1, 27, 28, 29, 30, 31, 32, 33, 34, 35, 36, 37, 38, 39] (by decide +kernel) (by decide +kernel)
set_option maxRecDepth 20000 in
theorem gX5_pay_X5_of : GoodIn wsX5_pay (wsV RX5 43 RX5 yX5_of wsX5_of) := goodIn_app (goodIn_of _ (by decide +kernel)) ggX5_pay_X5_of
set_option maxRecDepth 20000 in
theorem ggX5_pay_X5_records : GoodIn wsX5_pay wsX5_records := goodIn_r _ [17, 18, 19, 20, 21, 5, 22, 27, 28, 29, 30, 31, 32, 33, 34, 35, 36, 37, 38, 39] (by decide +kernel) (by decide +kernel)
set_option maxRecDepth 20000 in
theorem gX5_pay_X5_records : GoodIn wsX5_pay (wsV RX5 88 RX5 yX5_records wsX5_records) := goodIn_app (goodIn_of _ (by decide +kernel)) ggX5_pay_X5_records
set_option maxRecDepth 20000 in
theorem ggX5_pay_X5_lays : GoodIn wsX5_pay wsX5_lays := goodIn_r _ [26, 1, 27, 28, 29, 30, 31, 32, 33, 34, 35, 36, 37, 38, 39] (by decide +kernel) (by decide +kernel)
set_option maxRecDepth 20000 in
theorem gX5_pay_X5_lays : GoodIn wsX5_pay (wsV RX5 47 RX5 yX5_lays wsX5_lays) := goodIn_app (goodIn_of _ (by decide +kernel)) ggX5_pay_X5_lays
theorem dX5_pay_0 : decode cX5_pay 0 = .ok (.aload_n 0, 1) := by decide +kernel
theorem dX5_pay_1 : decode cX5_pay 1 = .ok (.iload_n 1, 1) := by decide +kernel
theorem dX5_pay_2 : decode cX5_pay 2 = .ok (.invokevirtual 92, 3) := by decide +kernel
theorem dX5_pay_5 : decode cX5_pay 5 = .ok (.ifCond .ne 5, 3) := by decide +kernel
theorem dX5_pay_8 : decode cX5_pay 8 = .ok (.iconst (-1), 1) := by decide +kernel
theorem dX5_pay_9 : decode cX5_pay 9 = .ok (.ireturn, 1) := by decide +kernel
theorem dX5_pay_10 : decode cX5_pay 10 = .ok (.iload_n 2, 1) := by decide +kernel
theorem dX5_pay_11 : decode cX5_pay 11 = .ok (.iconst 1, 1) := by decide +kernel
theorem dX5_pay_12 : decode cX5_pay 12 = .ok (.sipush 9999, 3) := by decide +kernel
theorem dX5_pay_15 : decode cX5_pay 15 = .ok (.invokestatic 39, 3) := by decide +kernel
theorem dX5_pay_18 : decode cX5_pay 18 = .ok (.ifCond .ne 6, 3) := by decide +kernel
theorem dX5_pay_21 : decode cX5_pay 21 = .ok (.bipush (-2), 2) := by decide +kernel
theorem dX5_pay_23 : decode cX5_pay 23 = .ok (.ireturn, 1) := by decide +kernel
theorem dX5_pay_24 : decode cX5_pay 24 = .ok (.aload_n 0, 1) := by decide +kernel
theorem dX5_pay_25 : decode cX5_pay 25 = .ok (.iload_n 1, 1) := by decide +kernel
theorem dX5_pay_26 : decode cX5_pay 26 = .ok (.iconst 0, 1) := by decide +kernel
theorem dX5_pay_27 : decode cX5_pay 27 = .ok (.invokevirtual 43, 3) := by decide +kernel
theorem dX5_pay_30 : decode cX5_pay 30 = .ok (.iload_n 2, 1) := by decide +kernel
theorem dX5_pay_31 : decode cX5_pay 31 = .ok (.iadd, 1) := by decide +kernel
theorem dX5_pay_32 : decode cX5_pay 32 = .ok (.sipush 9999, 3) := by decide +kernel
theorem dX5_pay_35 : decode cX5_pay 35 = .ok (.if_icmp .le 6, 3) := by decide +kernel
theorem dX5_pay_38 : decode cX5_pay 38 = .ok (.bipush (-3), 2) := by decide +kernel
theorem dX5_pay_40 : decode cX5_pay 40 = .ok (.ireturn, 1) := by decide +kernel
theorem dX5_pay_41 : decode cX5_pay 41 = .ok (.aload_n 0, 1) := by decide +kernel
theorem dX5_pay_42 : decode cX5_pay 42 = .ok (.aload_n 0, 1) := by decide +kernel
theorem dX5_pay_43 : decode cX5_pay 43 = .ok (.getfield 7, 3) := by decide +kernel
theorem dX5_pay_46 : decode cX5_pay 46 = .ok (.invokevirtual 88, 3) := by decide +kernel
theorem dX5_pay_49 : decode cX5_pay 49 = .ok (.aload_n 0, 1) := by decide +kernel
theorem dX5_pay_50 : decode cX5_pay 50 = .ok (.iload_n 1, 1) := by decide +kernel
theorem dX5_pay_51 : decode cX5_pay 51 = .ok (.iconst 0, 1) := by decide +kernel
theorem dX5_pay_52 : decode cX5_pay 52 = .ok (.aload_n 0, 1) := by decide +kernel
theorem dX5_pay_53 : decode cX5_pay 53 = .ok (.iload_n 1, 1) := by decide +kernel
theorem dX5_pay_54 : decode cX5_pay 54 = .ok (.iconst 0, 1) := by decide +kernel
theorem dX5_pay_55 : decode cX5_pay 55 = .ok (.invokevirtual 43, 3) := by decide +kernel
theorem dX5_pay_58 : decode cX5_pay 58 = .ok (.iload_n 2, 1) := by decide +kernel
theorem dX5_pay_59 : decode cX5_pay 59 = .ok (.iadd, 1) := by decide +kernel
theorem dX5_pay_60 : decode cX5_pay 60 = .ok (.invokevirtual 47, 3) := by decide +kernel
theorem dX5_pay_63 : decode cX5_pay 63 = .ok (.aload_n 0, 1) := by decide +kernel
theorem dX5_pay_64 : decode cX5_pay 64 = .ok (.iload_n 1, 1) := by decide +kernel
theorem dX5_pay_65 : decode cX5_pay 65 = .ok (.iconst 0, 1) := by decide +kernel
theorem dX5_pay_66 : decode cX5_pay 66 = .ok (.invokevirtual 43, 3) := by decide +kernel
theorem dX5_pay_69 : decode cX5_pay 69 = .ok (.ireturn, 1) := by decide +kernel
set_option maxRecDepth 20000 in
theorem ggX5_boatsOf_X5_kindOf : GoodIn wsX5_boatsOf wsX5_kindOf := goodIn_r _ [5, 6, 7, 8, 4, 9, 10, 11, 12, 13, 14, 15, 16, 17, 18, 19, 20, 21, 22, 23] (by decide +kernel) (by decide +kernel)
set_option maxRecDepth 20000 in
theorem gX5_boatsOf_X5_kindOf : GoodIn wsX5_boatsOf (wsV RX5 62 RX5 yX5_kindOf wsX5_kindOf) := goodIn_app (goodIn_of _ (by decide +kernel)) ggX5_boatsOf_X5_kindOf
theorem dX5_boatsOf_0 : decode cX5_boatsOf 0 = .ok (.iconst 0, 1) := by decide +kernel
theorem dX5_boatsOf_1 : decode cX5_boatsOf 1 = .ok (.istore_n 2, 1) := by decide +kernel
theorem dX5_boatsOf_2 : decode cX5_boatsOf 2 = .ok (.iconst 0, 1) := by decide +kernel
theorem dX5_boatsOf_3 : decode cX5_boatsOf 3 = .ok (.istore_n 3, 1) := by decide +kernel
theorem dX5_boatsOf_4 : decode cX5_boatsOf 4 = .ok (.iload_n 3, 1) := by decide +kernel
theorem dX5_boatsOf_5 : decode cX5_boatsOf 5 = .ok (.bipush 8, 2) := by decide +kernel
theorem dX5_boatsOf_7 : decode cX5_boatsOf 7 = .ok (.if_icmp .ge 26, 3) := by decide +kernel
theorem dX5_boatsOf_10 : decode cX5_boatsOf 10 = .ok (.iload_n 2, 1) := by decide +kernel
theorem dX5_boatsOf_11 : decode cX5_boatsOf 11 = .ok (.aload_n 0, 1) := by decide +kernel
theorem dX5_boatsOf_12 : decode cX5_boatsOf 12 = .ok (.iload_n 1, 1) := by decide +kernel
theorem dX5_boatsOf_13 : decode cX5_boatsOf 13 = .ok (.iload_n 3, 1) := by decide +kernel
theorem dX5_boatsOf_14 : decode cX5_boatsOf 14 = .ok (.invokevirtual 62, 3) := by decide +kernel
theorem dX5_boatsOf_17 : decode cX5_boatsOf 17 = .ok (.ifCond .lt 7, 3) := by decide +kernel
theorem dX5_boatsOf_20 : decode cX5_boatsOf 20 = .ok (.iconst 1, 1) := by decide +kernel
theorem dX5_boatsOf_21 : decode cX5_boatsOf 21 = .ok (.goto 4, 3) := by decide +kernel
theorem dX5_boatsOf_24 : decode cX5_boatsOf 24 = .ok (.iconst 0, 1) := by decide +kernel
theorem dX5_boatsOf_25 : decode cX5_boatsOf 25 = .ok (.iadd, 1) := by decide +kernel
theorem dX5_boatsOf_26 : decode cX5_boatsOf 26 = .ok (.istore_n 2, 1) := by decide +kernel
theorem dX5_boatsOf_27 : decode cX5_boatsOf 27 = .ok (.iinc 3 1, 3) := by decide +kernel
theorem dX5_boatsOf_30 : decode cX5_boatsOf 30 = .ok (.goto (-26), 3) := by decide +kernel
theorem dX5_boatsOf_33 : decode cX5_boatsOf 33 = .ok (.iload_n 2, 1) := by decide +kernel
theorem dX5_boatsOf_34 : decode cX5_boatsOf 34 = .ok (.ireturn, 1) := by decide +kernel
set_option maxRecDepth 20000 in
theorem ggX5_sail_X5_isSet : GoodIn wsX5_sail wsX5_isSet := goodIn_r _ [6, 1, 7, 8, 5, 9, 35, 36, 37, 38, 39, 40, 41, 42, 43, 44, 45, 46, 47] (by decide +kernel) (by decide +kernel)
set_option maxRecDepth 20000 in
theorem gX5_sail_X5_isSet : GoodIn wsX5_sail (wsV RX5 92 RX5 yX5_isSet wsX5_isSet) := goodIn_app (goodIn_of _ (by decide +kernel)) ggX5_sail_X5_isSet
set_option maxRecDepth 20000 in
theorem ggX5_sail_X5_of : GoodIn wsX5_sail wsX5_of := goodIn_r _ [13, 1, 35, 36, 37, 38, 39, 40, 41, 42, 43, 44, 45, 46, 47] (by decide +kernel) (by decide +kernel)
set_option maxRecDepth 20000 in
theorem gX5_sail_X5_of : GoodIn wsX5_sail (wsV RX5 43 RX5 yX5_of wsX5_of) := goodIn_app (goodIn_of _ (by decide +kernel)) ggX5_sail_X5_of
set_option maxRecDepth 20000 in
theorem ggX5_sail_X5_records : GoodIn wsX5_sail wsX5_records := goodIn_r _ [17, 18, 19, 20, 21, 5, 22, 35, 36, 37, 38, 39, 40, 41, 42, 43, 44, 45, 46, 47] (by decide +kernel) (by decide +kernel)
set_option maxRecDepth 20000 in
theorem gX5_sail_X5_records : GoodIn wsX5_sail (wsV RX5 88 RX5 yX5_records wsX5_records) := goodIn_app (goodIn_of _ (by decide +kernel)) ggX5_sail_X5_records
set_option maxRecDepth 20000 in
theorem ggX5_sail_X5_lays : GoodIn wsX5_sail wsX5_lays := goodIn_r _ [26, 1, 35, 36, 37, 38, 39, 40, 41, 42, 43, 44, 45, 46, 47] (by decide +kernel) (by decide +kernel)
set_option maxRecDepth 20000 in
theorem gX5_sail_X5_lays : GoodIn wsX5_sail (wsV RX5 47 RX5 yX5_lays wsX5_lays) := goodIn_app (goodIn_of _ (by decide +kernel)) ggX5_sail_X5_lays
set_option maxRecDepth 20000 in
theorem ggX5_sail_X5_boatsOf : GoodIn wsX5_sail wsX5_boatsOf := goodIn_r _ [30, 31, 32, 33, 5, 34, 10, 11, 12, 13, 1, 35, 36, 37, 38, 39, 40, 41, 42, 43, 44, 45, 46, 47] (by decide +kernel) (by decide +kernel)
set_option maxRecDepth 20000 in
theorem gX5_sail_X5_boatsOf : GoodIn wsX5_sail (wsV RX5 96 RX5 yX5_boatsOf wsX5_boatsOf) := goodIn_app (goodIn_of _ (by decide +kernel)) ggX5_sail_X5_boatsOf
theorem dX5_sail_0 : decode cX5_sail 0 = .ok (.aload_n 0, 1) := by decide +kernel
theorem dX5_sail_1 : decode cX5_sail 1 = .ok (.iload_n 1, 1) := by decide +kernel
theorem dX5_sail_2 : decode cX5_sail 2 = .ok (.invokevirtual 92, 3) := by decide +kernel
theorem dX5_sail_5 : decode cX5_sail 5 = .ok (.ifCond .ne 5, 3) := by decide +kernel
theorem dX5_sail_8 : decode cX5_sail 8 = .ok (.iconst (-1), 1) := by decide +kernel
theorem dX5_sail_9 : decode cX5_sail 9 = .ok (.ireturn, 1) := by decide +kernel
theorem dX5_sail_10 : decode cX5_sail 10 = .ok (.aload_n 0, 1) := by decide +kernel
theorem dX5_sail_11 : decode cX5_sail 11 = .ok (.iload_n 1, 1) := by decide +kernel
theorem dX5_sail_12 : decode cX5_sail 12 = .ok (.iconst 1, 1) := by decide +kernel
theorem dX5_sail_13 : decode cX5_sail 13 = .ok (.invokevirtual 43, 3) := by decide +kernel
theorem dX5_sail_16 : decode cX5_sail 16 = .ok (.iconst 1, 1) := by decide +kernel
theorem dX5_sail_17 : decode cX5_sail 17 = .ok (.if_icmp .ne 6, 3) := by decide +kernel
theorem dX5_sail_20 : decode cX5_sail 20 = .ok (.bipush (-5), 2) := by decide +kernel
theorem dX5_sail_22 : decode cX5_sail 22 = .ok (.ireturn, 1) := by decide +kernel
theorem dX5_sail_23 : decode cX5_sail 23 = .ok (.aload_n 0, 1) := by decide +kernel
theorem dX5_sail_24 : decode cX5_sail 24 = .ok (.aload_n 0, 1) := by decide +kernel
theorem dX5_sail_25 : decode cX5_sail 25 = .ok (.getfield 7, 3) := by decide +kernel
theorem dX5_sail_28 : decode cX5_sail 28 = .ok (.invokevirtual 88, 3) := by decide +kernel
theorem dX5_sail_31 : decode cX5_sail 31 = .ok (.aload_n 0, 1) := by decide +kernel
theorem dX5_sail_32 : decode cX5_sail 32 = .ok (.iload_n 1, 1) := by decide +kernel
theorem dX5_sail_33 : decode cX5_sail 33 = .ok (.iconst 1, 1) := by decide +kernel
theorem dX5_sail_34 : decode cX5_sail 34 = .ok (.iconst 1, 1) := by decide +kernel
theorem dX5_sail_35 : decode cX5_sail 35 = .ok (.invokevirtual 47, 3) := by decide +kernel
theorem dX5_sail_38 : decode cX5_sail 38 = .ok (.aload_n 0, 1) := by decide +kernel
theorem dX5_sail_39 : decode cX5_sail 39 = .ok (.iload_n 1, 1) := by decide +kernel
theorem dX5_sail_40 : decode cX5_sail 40 = .ok (.invokevirtual 96, 3) := by decide +kernel
theorem dX5_sail_43 : decode cX5_sail 43 = .ok (.ireturn, 1) := by decide +kernel
set_option maxRecDepth 20000 in
theorem ggX5_nextToDock_X5_kindOf : GoodIn wsX5_nextToDock wsX5_kindOf := goodIn_r _ [6, 7, 8, 9, 5, 10, 11, 45, 46, 47, 48, 49, 50, 51, 52, 53, 54, 55, 56, 57] (by decide +kernel) (by decide +kernel)
set_option maxRecDepth 20000 in
theorem gX5_nextToDock_X5_kindOf : GoodIn wsX5_nextToDock (wsV RX5 62 RX5 yX5_kindOf wsX5_kindOf) := goodIn_app (goodIn_of _ (by decide +kernel)) ggX5_nextToDock_X5_kindOf
set_option maxRecDepth 20000 in
theorem ggX5_nextToDock_X5_tollOf : GoodIn wsX5_nextToDock wsX5_tollOf := goodIn_r _ [15, 16, 17, 18, 5, 19, 20, 21, 22, 23, 24, 25, 26, 27, 7, 8, 9, 10, 11, 28, 29, 30, 31, 32, 33, 34, 35, 36, 37, 38, 39, 40, 2, 3, 4, 6, 45, 46, 47, 48, 49, 50, 51, 52, 53, 54, 55, 56, 57] (by decide +kernel) (by decide +kernel)
set_option maxRecDepth 20000 in
theorem gX5_nextToDock_X5_tollOf : GoodIn wsX5_nextToDock (wsV RX5 77 RX5 yX5_tollOf wsX5_tollOf) := goodIn_app (goodIn_of _ (by decide +kernel)) ggX5_nextToDock_X5_tollOf
set_option maxRecDepth 20000 in
theorem ggX5_nextToDock_X5_unitsOf : GoodIn wsX5_nextToDock wsX5_unitsOf := goodIn_r _ [44, 2, 3, 4, 5, 6, 7, 8, 9, 10, 11, 20, 21, 22, 23, 24, 25, 26, 27, 28, 29, 30, 31, 38, 39, 40, 45, 46, 47, 48, 49, 50, 51, 52, 53, 54, 55, 56, 57] (by decide +kernel) (by decide +kernel)
set_option maxRecDepth 20000 in
theorem gX5_nextToDock_X5_unitsOf : GoodIn wsX5_nextToDock (wsV RX5 103 RX5 yX5_unitsOf wsX5_unitsOf) := goodIn_app (goodIn_of _ (by decide +kernel)) ggX5_nextToDock_X5_unitsOf
theorem dX5_nextToDock_0 : decode cX5_nextToDock 0 = .ok (.bipush (-5), 2) := by decide +kernel
theorem dX5_nextToDock_2 : decode cX5_nextToDock 2 = .ok (.istore_n 2, 1) := by decide +kernel
theorem dX5_nextToDock_3 : decode cX5_nextToDock 3 = .ok (.iconst 0, 1) := by decide +kernel
theorem dX5_nextToDock_4 : decode cX5_nextToDock 4 = .ok (.istore_n 3, 1) := by decide +kernel
theorem dX5_nextToDock_5 : decode cX5_nextToDock 5 = .ok (.iconst 0, 1) := by decide +kernel
theorem dX5_nextToDock_6 : decode cX5_nextToDock 6 = .ok (.istore 4, 2) := by decide +kernel
theorem dX5_nextToDock_8 : decode cX5_nextToDock 8 = .ok (.iload 4, 2) := by decide +kernel
theorem dX5_nextToDock_10 : decode cX5_nextToDock 10 = .ok (.bipush 8, 2) := by decide +kernel
theorem dX5_nextToDock_12 : decode cX5_nextToDock 12 = .ok (.if_icmp .ge 101, 3) := by decide +kernel
theorem dX5_nextToDock_15 : decode cX5_nextToDock 15 = .ok (.aload_n 0, 1) := by decide +kernel
theorem dX5_nextToDock_16 : decode cX5_nextToDock 16 = .ok (.iload_n 1, 1) := by decide +kernel
theorem dX5_nextToDock_17 : decode cX5_nextToDock 17 = .ok (.iload 4, 2) := by decide +kernel
theorem dX5_nextToDock_19 : decode cX5_nextToDock 19 = .ok (.invokevirtual 62, 3) := by decide +kernel
theorem dX5_nextToDock_22 : decode cX5_nextToDock 22 = .ok (.ifCond .lt 85, 3) := by decide +kernel
theorem dX5_nextToDock_25 : decode cX5_nextToDock 25 = .ok (.aload_n 0, 1) := by decide +kernel
theorem dX5_nextToDock_26 : decode cX5_nextToDock 26 = .ok (.getfield 100, 3) := by decide +kernel
theorem dX5_nextToDock_29 : decode cX5_nextToDock 29 = .ok (.iload 4, 2) := by decide +kernel
theorem dX5_nextToDock_31 : decode cX5_nextToDock 31 = .ok (.ishr, 1) := by decide +kernel
theorem dX5_nextToDock_32 : decode cX5_nextToDock 32 = .ok (.iconst 1, 1) := by decide +kernel
theorem dX5_nextToDock_33 : decode cX5_nextToDock 33 = .ok (.iand, 1) := by decide +kernel
theorem dX5_nextToDock_34 : decode cX5_nextToDock 34 = .ok (.ifCond .ne 73, 3) := by decide +kernel
theorem dX5_nextToDock_37 : decode cX5_nextToDock 37 = .ok (.aload_n 0, 1) := by decide +kernel
theorem dX5_nextToDock_38 : decode cX5_nextToDock 38 = .ok (.iload_n 1, 1) := by decide +kernel
theorem dX5_nextToDock_39 : decode cX5_nextToDock 39 = .ok (.iload 4, 2) := by decide +kernel
theorem dX5_nextToDock_41 : decode cX5_nextToDock 41 = .ok (.invokevirtual 77, 3) := by decide +kernel
theorem dX5_nextToDock_44 : decode cX5_nextToDock 44 = .ok (.ifCond .le 63, 3) := by decide +kernel
theorem dX5_nextToDock_47 : decode cX5_nextToDock 47 = .ok (.aload_n 0, 1) := by decide +kernel
theorem dX5_nextToDock_48 : decode cX5_nextToDock 48 = .ok (.iload_n 1, 1) := by decide +kernel
theorem dX5_nextToDock_49 : decode cX5_nextToDock 49 = .ok (.iload 4, 2) := by decide +kernel
theorem dX5_nextToDock_51 : decode cX5_nextToDock 51 = .ok (.invokevirtual 103, 3) := by decide +kernel
theorem dX5_nextToDock_54 : decode cX5_nextToDock 54 = .ok (.aload_n 0, 1) := by decide +kernel
theorem dX5_nextToDock_55 : decode cX5_nextToDock 55 = .ok (.iload_n 1, 1) := by decide +kernel
theorem dX5_nextToDock_56 : decode cX5_nextToDock 56 = .ok (.iload 4, 2) := by decide +kernel
theorem dX5_nextToDock_58 : decode cX5_nextToDock 58 = .ok (.invokevirtual 77, 3) := by decide +kernel
theorem dX5_nextToDock_61 : decode cX5_nextToDock 61 = .ok (.isub, 1) := by decide +kernel
theorem dX5_nextToDock_62 : decode cX5_nextToDock 62 = .ok (.istore 5, 2) := by decide +kernel
theorem dX5_nextToDock_64 : decode cX5_nextToDock 64 = .ok (.iload_n 2, 1) := by decide +kernel
theorem dX5_nextToDock_65 : decode cX5_nextToDock 65 = .ok (.bipush (-5), 2) := by decide +kernel
theorem dX5_nextToDock_67 : decode cX5_nextToDock 67 = .ok (.if_icmp .eq 9, 3) := by decide +kernel
theorem dX5_nextToDock_70 : decode cX5_nextToDock 70 = .ok (.iload 5, 2) := by decide +kernel
theorem dX5_nextToDock_72 : decode cX5_nextToDock 72 = .ok (.iload_n 3, 1) := by decide +kernel
theorem dX5_nextToDock_73 : decode cX5_nextToDock 73 = .ok (.if_icmp .le 7, 3) := by decide +kernel
theorem dX5_nextToDock_76 : decode cX5_nextToDock 76 = .ok (.iconst 1, 1) := by decide +kernel
theorem dX5_nextToDock_77 : decode cX5_nextToDock 77 = .ok (.goto 4, 3) := by decide +kernel
theorem dX5_nextToDock_80 : decode cX5_nextToDock 80 = .ok (.iconst 0, 1) := by decide +kernel
theorem dX5_nextToDock_81 : decode cX5_nextToDock 81 = .ok (.istore 6, 2) := by decide +kernel
theorem dX5_nextToDock_83 : decode cX5_nextToDock 83 = .ok (.iload 6, 2) := by decide +kernel
theorem dX5_nextToDock_85 : decode cX5_nextToDock 85 = .ok (.ifCond .eq 8, 3) := by decide +kernel
theorem dX5_nextToDock_88 : decode cX5_nextToDock 88 = .ok (.iload 4, 2) := by decide +kernel
theorem dX5_nextToDock_90 : decode cX5_nextToDock 90 = .ok (.goto 4, 3) := by decide +kernel
theorem dX5_nextToDock_93 : decode cX5_nextToDock 93 = .ok (.iload_n 2, 1) := by decide +kernel
theorem dX5_nextToDock_94 : decode cX5_nextToDock 94 = .ok (.istore_n 2, 1) := by decide +kernel
theorem dX5_nextToDock_95 : decode cX5_nextToDock 95 = .ok (.iload 6, 2) := by decide +kernel
theorem dX5_nextToDock_97 : decode cX5_nextToDock 97 = .ok (.ifCond .eq 8, 3) := by decide +kernel
theorem dX5_nextToDock_100 : decode cX5_nextToDock 100 = .ok (.iload 5, 2) := by decide +kernel
theorem dX5_nextToDock_102 : decode cX5_nextToDock 102 = .ok (.goto 4, 3) := by decide +kernel
theorem dX5_nextToDock_105 : decode cX5_nextToDock 105 = .ok (.iload_n 3, 1) := by decide +kernel
theorem dX5_nextToDock_106 : decode cX5_nextToDock 106 = .ok (.istore_n 3, 1) := by decide +kernel
theorem dX5_nextToDock_107 : decode cX5_nextToDock 107 = .ok (.iinc 4 1, 3) := by decide +kernel
theorem dX5_nextToDock_110 : decode cX5_nextToDock 110 = .ok (.goto (-102), 3) := by decide +kernel
theorem dX5_nextToDock_113 : decode cX5_nextToDock 113 = .ok (.iload_n 2, 1) := by decide +kernel
theorem dX5_nextToDock_114 : decode cX5_nextToDock 114 = .ok (.ireturn, 1) := by decide +kernel
set_option maxRecDepth 20000 in
theorem ggX5_docks_X5_of : GoodIn wsX5_docks wsX5_of := goodIn_r _ [6, 7, 57, 58, 59, 60, 61, 62, 63, 64, 65, 66, 67, 68, 69] (by decide +kernel) (by decide +kernel)
set_option maxRecDepth 20000 in
theorem gX5_docks_X5_of : GoodIn wsX5_docks (wsV RX5 43 RX5 yX5_of wsX5_of) := goodIn_app (goodIn_of _ (by decide +kernel)) ggX5_docks_X5_of
set_option maxRecDepth 20000 in
theorem ggX5_docks_X5_lays : GoodIn wsX5_docks wsX5_lays := goodIn_r _ [11, 7, 57, 58, 59, 60, 61, 62, 63, 64, 65, 66, 67, 68, 69] (by decide +kernel) (by decide +kernel)
set_option maxRecDepth 20000 in
theorem gX5_docks_X5_lays : GoodIn wsX5_docks (wsV RX5 47 RX5 yX5_lays wsX5_lays) := goodIn_app (goodIn_of _ (by decide +kernel)) ggX5_docks_X5_lays
set_option maxRecDepth 20000 in
theorem ggX5_docks_X5_nextToDock : GoodIn wsX5_docks wsX5_nextToDock := goodIn_r _ [15, 1, 16, 17, 18, 5, 19, 2, 3, 4, 6, 7, 20, 21, 22, 23, 24, 25, 26, 27, 28, 29, 30, 31, 32, 33, 34, 35, 36, 37, 38, 39, 40, 41, 42, 43, 44, 45, 46, 47, 48, 49, 50, 51, 52, 57, 58, 59, 60, 61, 62, 63, 64, 65, 66, 67, 68, 69] (by decide +kernel) (by decide +kernel)
set_option maxRecDepth 20000 in
theorem gX5_docks_X5_nextToDock : GoodIn wsX5_docks (wsV RX5 106 RX5 yX5_nextToDock wsX5_nextToDock) := goodIn_app (goodIn_of _ (by decide +kernel)) ggX5_docks_X5_nextToDock
set_option maxRecDepth 20000 in
theorem ggX5_docks_X5_tollOf : GoodIn wsX5_docks wsX5_tollOf := goodIn_r _ [23, 24, 25, 26, 5, 27, 28, 29, 30, 31, 32, 33, 34, 35, 2, 3, 4, 6, 7, 36, 37, 38, 39, 40, 41, 42, 43, 44, 45, 46, 47, 48, 16, 17, 18, 19, 57, 58, 59, 60, 61, 62, 63, 64, 65, 66, 67, 68, 69] (by decide +kernel) (by decide +kernel)
set_option maxRecDepth 20000 in
theorem gX5_docks_X5_tollOf : GoodIn wsX5_docks (wsV RX5 77 RX5 yX5_tollOf wsX5_tollOf) := goodIn_app (goodIn_of _ (by decide +kernel)) ggX5_docks_X5_tollOf
set_option maxRecDepth 20000 in
theorem ggX5_docks_X5_becomes : GoodIn wsX5_docks wsX5_becomes := goodIn_r _ [56, 20, 21, 22, 5, 23, 24, 25, 26, 27, 28, 29, 30, 31, 32, 33, 34, 35, 2, 3, 4, 6, 7, 36, 37, 38, 39, 40, 41, 42, 43, 44, 45, 46, 47, 48, 16, 17, 18, 19, 8, 9, 10, 11, 57, 58, 59, 60, 61, 62, 63, 64, 65, 66, 67, 68, 69] (by decide +kernel) (by decide +kernel)
set_option maxRecDepth 20000 in
theorem gX5_docks_X5_becomes : GoodIn wsX5_docks (wsV RX5 84 RX5 yX5_becomes wsX5_becomes) := goodIn_app (goodIn_of _ (by decide +kernel)) ggX5_docks_X5_becomes
theorem dX5_docks_0 : decode cX5_docks 0 = .ok (.aload_n 0, 1) := by decide +kernel
theorem dX5_docks_1 : decode cX5_docks 1 = .ok (.iload_n 1, 1) := by decide +kernel
theorem dX5_docks_2 : decode cX5_docks 2 = .ok (.iconst 2, 1) := by decide +kernel
theorem dX5_docks_3 : decode cX5_docks 3 = .ok (.invokevirtual 43, 3) := by decide +kernel
theorem dX5_docks_6 : decode cX5_docks 6 = .ok (.istore_n 2, 1) := by decide +kernel
theorem dX5_docks_7 : decode cX5_docks 7 = .ok (.aload_n 0, 1) := by decide +kernel
theorem dX5_docks_8 : decode cX5_docks 8 = .ok (.iload_n 1, 1) := by decide +kernel
theorem dX5_docks_9 : decode cX5_docks 9 = .ok (.iconst 1, 1) := by decide +kernel
theorem dX5_docks_10 : decode cX5_docks 10 = .ok (.iconst 0, 1) := by decide +kernel
theorem dX5_docks_11 : decode cX5_docks 11 = .ok (.invokevirtual 47, 3) := by decide +kernel
theorem dX5_docks_14 : decode cX5_docks 14 = .ok (.aload_n 0, 1) := by decide +kernel
theorem dX5_docks_15 : decode cX5_docks 15 = .ok (.iconst 0, 1) := by decide +kernel
theorem dX5_docks_16 : decode cX5_docks 16 = .ok (.putfield 100, 3) := by decide +kernel
theorem dX5_docks_19 : decode cX5_docks 19 = .ok (.aload_n 0, 1) := by decide +kernel
theorem dX5_docks_20 : decode cX5_docks 20 = .ok (.iload_n 1, 1) := by decide +kernel
theorem dX5_docks_21 : decode cX5_docks 21 = .ok (.invokevirtual 106, 3) := by decide +kernel
theorem dX5_docks_24 : decode cX5_docks 24 = .ok (.istore_n 3, 1) := by decide +kernel
theorem dX5_docks_25 : decode cX5_docks 25 = .ok (.iload_n 3, 1) := by decide +kernel
theorem dX5_docks_26 : decode cX5_docks 26 = .ok (.bipush (-5), 2) := by decide +kernel
theorem dX5_docks_28 : decode cX5_docks 28 = .ok (.if_icmp .eq 45, 3) := by decide +kernel
theorem dX5_docks_31 : decode cX5_docks 31 = .ok (.aload_n 0, 1) := by decide +kernel
theorem dX5_docks_32 : decode cX5_docks 32 = .ok (.dup, 1) := by decide +kernel
theorem dX5_docks_33 : decode cX5_docks 33 = .ok (.getfield 100, 3) := by decide +kernel
theorem dX5_docks_36 : decode cX5_docks 36 = .ok (.iconst 1, 1) := by decide +kernel
theorem dX5_docks_37 : decode cX5_docks 37 = .ok (.iload_n 3, 1) := by decide +kernel
theorem dX5_docks_38 : decode cX5_docks 38 = .ok (.ishl, 1) := by decide +kernel
theorem dX5_docks_39 : decode cX5_docks 39 = .ok (.ior, 1) := by decide +kernel
theorem dX5_docks_40 : decode cX5_docks 40 = .ok (.putfield 100, 3) := by decide +kernel
theorem dX5_docks_43 : decode cX5_docks 43 = .ok (.aload_n 0, 1) := by decide +kernel
theorem dX5_docks_44 : decode cX5_docks 44 = .ok (.iload_n 1, 1) := by decide +kernel
theorem dX5_docks_45 : decode cX5_docks 45 = .ok (.iconst 0, 1) := by decide +kernel
theorem dX5_docks_46 : decode cX5_docks 46 = .ok (.invokevirtual 43, 3) := by decide +kernel
theorem dX5_docks_49 : decode cX5_docks 49 = .ok (.aload_n 0, 1) := by decide +kernel
theorem dX5_docks_50 : decode cX5_docks 50 = .ok (.iload_n 1, 1) := by decide +kernel
theorem dX5_docks_51 : decode cX5_docks 51 = .ok (.iload_n 3, 1) := by decide +kernel
theorem dX5_docks_52 : decode cX5_docks 52 = .ok (.invokevirtual 77, 3) := by decide +kernel
theorem dX5_docks_55 : decode cX5_docks 55 = .ok (.if_icmp .lt 9, 3) := by decide +kernel
theorem dX5_docks_58 : decode cX5_docks 58 = .ok (.aload_n 0, 1) := by decide +kernel
theorem dX5_docks_59 : decode cX5_docks 59 = .ok (.iload_n 1, 1) := by decide +kernel
theorem dX5_docks_60 : decode cX5_docks 60 = .ok (.iload_n 3, 1) := by decide +kernel
theorem dX5_docks_61 : decode cX5_docks 61 = .ok (.invokevirtual 84, 3) := by decide +kernel
theorem dX5_docks_64 : decode cX5_docks 64 = .ok (.aload_n 0, 1) := by decide +kernel
theorem dX5_docks_65 : decode cX5_docks 65 = .ok (.iload_n 1, 1) := by decide +kernel
theorem dX5_docks_66 : decode cX5_docks 66 = .ok (.invokevirtual 106, 3) := by decide +kernel
theorem dX5_docks_69 : decode cX5_docks 69 = .ok (.istore_n 3, 1) := by decide +kernel
theorem dX5_docks_70 : decode cX5_docks 70 = .ok (.goto (-45), 3) := by decide +kernel
theorem dX5_docks_73 : decode cX5_docks 73 = .ok (.aload_n 0, 1) := by decide +kernel
theorem dX5_docks_74 : decode cX5_docks 74 = .ok (.iload_n 1, 1) := by decide +kernel
theorem dX5_docks_75 : decode cX5_docks 75 = .ok (.iconst 2, 1) := by decide +kernel
theorem dX5_docks_76 : decode cX5_docks 76 = .ok (.invokevirtual 43, 3) := by decide +kernel
theorem dX5_docks_79 : decode cX5_docks 79 = .ok (.iload_n 2, 1) := by decide +kernel
theorem dX5_docks_80 : decode cX5_docks 80 = .ok (.isub, 1) := by decide +kernel
theorem dX5_docks_81 : decode cX5_docks 81 = .ok (.ireturn, 1) := by decide +kernel
set_option maxRecDepth 20000 in
theorem ggX5_dock_X5_isSet : GoodIn wsX5_dock wsX5_isSet := goodIn_r _ [6, 1, 7, 8, 5, 9, 77, 78, 79, 80, 81, 82, 83, 84, 85, 86, 87, 88, 89] (by decide +kernel) (by decide +kernel)
set_option maxRecDepth 20000 in
theorem gX5_dock_X5_isSet : GoodIn wsX5_dock (wsV RX5 92 RX5 yX5_isSet wsX5_isSet) := goodIn_app (goodIn_of _ (by decide +kernel)) ggX5_dock_X5_isSet
set_option maxRecDepth 20000 in
theorem ggX5_dock_X5_records : GoodIn wsX5_dock wsX5_records := goodIn_r _ [13, 14, 15, 16, 17, 5, 18, 77, 78, 79, 80, 81, 82, 83, 84, 85, 86, 87, 88, 89] (by decide +kernel) (by decide +kernel)
set_option maxRecDepth 20000 in
theorem gX5_dock_X5_records : GoodIn wsX5_dock (wsV RX5 88 RX5 yX5_records wsX5_records) := goodIn_app (goodIn_of _ (by decide +kernel)) ggX5_dock_X5_records
set_option maxRecDepth 20000 in
theorem ggX5_dock_X5_docks : GoodIn wsX5_dock wsX5_docks := goodIn_r _ [22, 23, 24, 25, 26, 5, 27, 1, 28, 29, 30, 31, 32, 33, 34, 35, 36, 37, 38, 39, 40, 41, 42, 43, 44, 45, 46, 47, 48, 49, 50, 51, 52, 53, 54, 55, 56, 57, 58, 59, 60, 61, 62, 63, 64, 65, 66, 67, 68, 69, 70, 71, 72, 73, 74, 75, 76, 77, 78, 79, 80, 81, 82, 83, 84, 85, 86, 87, 88, 89] (by decide +kernel) (by decide +kernel)
set_option maxRecDepth 20000 in
theorem gX5_dock_X5_docks : GoodIn wsX5_dock (wsV RX5 109 RX5 yX5_docks wsX5_docks) := goodIn_app (goodIn_of _ (by decide +kernel)) ggX5_dock_X5_docks
theorem dX5_dock_0 : decode cX5_dock 0 = .ok (.aload_n 0, 1) := by decide +kernel
theorem dX5_dock_1 : decode cX5_dock 1 = .ok (.iload_n 1, 1) := by decide +kernel
theorem dX5_dock_2 : decode cX5_dock 2 = .ok (.invokevirtual 92, 3) := by decide +kernel
theorem dX5_dock_5 : decode cX5_dock 5 = .ok (.ifCond .ne 5, 3) := by decide +kernel
theorem dX5_dock_8 : decode cX5_dock 8 = .ok (.iconst (-1), 1) := by decide +kernel
theorem dX5_dock_9 : decode cX5_dock 9 = .ok (.ireturn, 1) := by decide +kernel
theorem dX5_dock_10 : decode cX5_dock 10 = .ok (.aload_n 0, 1) := by decide +kernel
theorem dX5_dock_11 : decode cX5_dock 11 = .ok (.aload_n 0, 1) := by decide +kernel
theorem dX5_dock_12 : decode cX5_dock 12 = .ok (.getfield 7, 3) := by decide +kernel
theorem dX5_dock_15 : decode cX5_dock 15 = .ok (.invokevirtual 88, 3) := by decide +kernel
theorem dX5_dock_18 : decode cX5_dock 18 = .ok (.aload_n 0, 1) := by decide +kernel
theorem dX5_dock_19 : decode cX5_dock 19 = .ok (.iload_n 1, 1) := by decide +kernel
theorem dX5_dock_20 : decode cX5_dock 20 = .ok (.invokevirtual 109, 3) := by decide +kernel
theorem dX5_dock_23 : decode cX5_dock 23 = .ok (.ireturn, 1) := by decide +kernel
set_option maxRecDepth 20000 in
theorem ggX5_add_X5_isSet : GoodIn wsX5_add wsX5_isSet := goodIn_r _ [7, 1, 8, 9, 6, 10, 76, 77, 78, 79, 80, 81, 82, 83, 84, 85, 86, 87, 88] (by decide +kernel) (by decide +kernel)
set_option maxRecDepth 20000 in
theorem gX5_add_X5_isSet : GoodIn wsX5_add (wsV RX5 92 RX5 yX5_isSet wsX5_isSet) := goodIn_app (goodIn_of _ (by decide +kernel)) ggX5_add_X5_isSet
set_option maxRecDepth 20000 in
theorem ggX5_add_X5_isNumber : GoodIn wsX5_add wsX5_isNumber := goodIn_r _ [13, 8, 9, 6, 10] (by decide +kernel) (by decide +kernel)
set_option maxRecDepth 20000 in
theorem gX5_add_X5_isNumber : GoodIn wsX5_add (va_wsS RX5 112 yX5_isNumber wsX5_isNumber) := goodIn_app (goodIn_of _ (by decide +kernel)) ggX5_add_X5_isNumber
set_option maxRecDepth 20000 in
theorem ggX5_add_X5_isIn : GoodIn wsX5_add wsX5_isIn := goodIn_r _ [17, 18, 19, 20, 6, 21, 1, 76, 77, 78, 79, 80, 81, 82, 83, 84, 85, 86, 87, 88] (by decide +kernel) (by decide +kernel)
set_option maxRecDepth 20000 in
theorem gX5_add_X5_isIn : GoodIn wsX5_add (wsV RX5 51 RX5 yX5_isIn wsX5_isIn) := goodIn_app (goodIn_of _ (by decide +kernel)) ggX5_add_X5_isIn
set_option maxRecDepth 20000 in
theorem ggX5_add_X5_copies : GoodIn wsX5_add wsX5_copies := goodIn_r _ [24] (by decide +kernel) (by decide +kernel)
set_option maxRecDepth 20000 in
theorem gX5_add_X5_copies : GoodIn wsX5_add (va_wsS RX5 35 yX5_copies wsX5_copies) := goodIn_app (goodIn_of _ (by decide +kernel)) ggX5_add_X5_copies
set_option maxRecDepth 20000 in
theorem ggX5_add_X5_goes : GoodIn wsX5_add wsX5_goes := goodIn_r _ [28, 29, 30, 31, 6, 32, 18, 19, 20, 21, 1, 33, 34, 35, 36, 37, 38, 39, 40, 41, 42, 43, 44, 14, 15, 16, 17, 45, 46, 47, 48, 49, 50, 51, 52, 53, 54, 55, 56, 57, 58, 59, 60, 61, 62, 63, 64, 65, 66, 67, 68, 69, 76, 77, 78, 79, 80, 81, 82, 83, 84, 85, 86, 87, 88] (by decide +kernel) (by decide +kernel)
set_option maxRecDepth 20000 in
theorem gX5_add_X5_goes : GoodIn wsX5_add (wsV RX5 115 RX5 yX5_goes wsX5_goes) := goodIn_app (goodIn_of _ (by decide +kernel)) ggX5_add_X5_goes
set_option maxRecDepth 20000 in
theorem ggX5_add_X5_records : GoodIn wsX5_add wsX5_records := goodIn_r _ [73, 74, 75, 22, 23, 6, 24, 76, 77, 78, 79, 80, 81, 82, 83, 84, 85, 86, 87, 88] (by decide +kernel) (by decide +kernel)
set_option maxRecDepth 20000 in
theorem gX5_add_X5_records : GoodIn wsX5_add (wsV RX5 88 RX5 yX5_records wsX5_records) := goodIn_app (goodIn_of _ (by decide +kernel)) ggX5_add_X5_records
set_option maxRecDepth 20000 in
theorem ggX5_add_X5_kindOf : GoodIn wsX5_add wsX5_kindOf := goodIn_r _ [40, 18, 19, 20, 6, 21, 1, 76, 77, 78, 79, 80, 81, 82, 83, 84, 85, 86, 87, 88] (by decide +kernel) (by decide +kernel)
set_option maxRecDepth 20000 in
theorem gX5_add_X5_kindOf : GoodIn wsX5_add (wsV RX5 62 RX5 yX5_kindOf wsX5_kindOf) := goodIn_app (goodIn_of _ (by decide +kernel)) ggX5_add_X5_kindOf
theorem dX5_add_0 : decode cX5_add 0 = .ok (.aload_n 0, 1) := by decide +kernel
theorem dX5_add_1 : decode cX5_add 1 = .ok (.iload_n 1, 1) := by decide +kernel
theorem dX5_add_2 : decode cX5_add 2 = .ok (.invokevirtual 92, 3) := by decide +kernel
theorem dX5_add_5 : decode cX5_add 5 = .ok (.ifCond .ne 5, 3) := by decide +kernel
theorem dX5_add_8 : decode cX5_add 8 = .ok (.iconst (-1), 1) := by decide +kernel
theorem dX5_add_9 : decode cX5_add 9 = .ok (.ireturn, 1) := by decide +kernel
theorem dX5_add_10 : decode cX5_add 10 = .ok (.iload_n 2, 1) := by decide +kernel
theorem dX5_add_11 : decode cX5_add 11 = .ok (.invokestatic 112, 3) := by decide +kernel
theorem dX5_add_14 : decode cX5_add 14 = .ok (.ifCond .ne 6, 3) := by decide +kernel
theorem dX5_add_17 : decode cX5_add 17 = .ok (.bipush (-2), 2) := by decide +kernel
theorem dX5_add_19 : decode cX5_add 19 = .ok (.ireturn, 1) := by decide +kernel
theorem dX5_add_20 : decode cX5_add 20 = .ok (.aload_n 0, 1) := by decide +kernel
theorem dX5_add_21 : decode cX5_add 21 = .ok (.iload_n 1, 1) := by decide +kernel
theorem dX5_add_22 : decode cX5_add 22 = .ok (.iload_n 2, 1) := by decide +kernel
theorem dX5_add_23 : decode cX5_add 23 = .ok (.invokevirtual 51, 3) := by decide +kernel
theorem dX5_add_26 : decode cX5_add 26 = .ok (.ifCond .eq 6, 3) := by decide +kernel
theorem dX5_add_29 : decode cX5_add 29 = .ok (.bipush (-5), 2) := by decide +kernel
theorem dX5_add_31 : decode cX5_add 31 = .ok (.ireturn, 1) := by decide +kernel
theorem dX5_add_32 : decode cX5_add 32 = .ok (.aload_n 0, 1) := by decide +kernel
theorem dX5_add_33 : decode cX5_add 33 = .ok (.getfield 7, 3) := by decide +kernel
theorem dX5_add_36 : decode cX5_add 36 = .ok (.iconst 0, 1) := by decide +kernel
theorem dX5_add_37 : decode cX5_add 37 = .ok (.aload_n 0, 1) := by decide +kernel
theorem dX5_add_38 : decode cX5_add 38 = .ok (.getfield 19, 3) := by decide +kernel
theorem dX5_add_41 : decode cX5_add 41 = .ok (.iconst 0, 1) := by decide +kernel
theorem dX5_add_42 : decode cX5_add 42 = .ok (.invokestatic 35, 3) := by decide +kernel
theorem dX5_add_45 : decode cX5_add 45 = .ok (.aload_n 0, 1) := by decide +kernel
theorem dX5_add_46 : decode cX5_add 46 = .ok (.iload_n 1, 1) := by decide +kernel
theorem dX5_add_47 : decode cX5_add 47 = .ok (.iload_n 2, 1) := by decide +kernel
theorem dX5_add_48 : decode cX5_add 48 = .ok (.iconst 1, 1) := by decide +kernel
theorem dX5_add_49 : decode cX5_add 49 = .ok (.invokevirtual 115, 3) := by decide +kernel
theorem dX5_add_52 : decode cX5_add 52 = .ok (.ifCond .ne 19, 3) := by decide +kernel
theorem dX5_add_55 : decode cX5_add 55 = .ok (.aload_n 0, 1) := by decide +kernel
theorem dX5_add_56 : decode cX5_add 56 = .ok (.getfield 19, 3) := by decide +kernel
theorem dX5_add_59 : decode cX5_add 59 = .ok (.iconst 0, 1) := by decide +kernel
theorem dX5_add_60 : decode cX5_add 60 = .ok (.aload_n 0, 1) := by decide +kernel
theorem dX5_add_61 : decode cX5_add 61 = .ok (.getfield 7, 3) := by decide +kernel
theorem dX5_add_64 : decode cX5_add 64 = .ok (.iconst 0, 1) := by decide +kernel
theorem dX5_add_65 : decode cX5_add 65 = .ok (.invokestatic 35, 3) := by decide +kernel
theorem dX5_add_68 : decode cX5_add 68 = .ok (.bipush (-3), 2) := by decide +kernel
theorem dX5_add_70 : decode cX5_add 70 = .ok (.ireturn, 1) := by decide +kernel
theorem dX5_add_71 : decode cX5_add 71 = .ok (.aload_n 0, 1) := by decide +kernel
theorem dX5_add_72 : decode cX5_add 72 = .ok (.aload_n 0, 1) := by decide +kernel
theorem dX5_add_73 : decode cX5_add 73 = .ok (.getfield 19, 3) := by decide +kernel
theorem dX5_add_76 : decode cX5_add 76 = .ok (.invokevirtual 88, 3) := by decide +kernel
theorem dX5_add_79 : decode cX5_add 79 = .ok (.aload_n 0, 1) := by decide +kernel
theorem dX5_add_80 : decode cX5_add 80 = .ok (.iload_n 1, 1) := by decide +kernel
theorem dX5_add_81 : decode cX5_add 81 = .ok (.iload_n 2, 1) := by decide +kernel
theorem dX5_add_82 : decode cX5_add 82 = .ok (.sipush 256, 3) := by decide +kernel
theorem dX5_add_85 : decode cX5_add 85 = .ok (.idiv, 1) := by decide +kernel
theorem dX5_add_86 : decode cX5_add 86 = .ok (.invokevirtual 62, 3) := by decide +kernel
theorem dX5_add_89 : decode cX5_add 89 = .ok (.ireturn, 1) := by decide +kernel
set_option maxRecDepth 20000 in
theorem ggX5_remove_X5_isSet : GoodIn wsX5_remove wsX5_isSet := goodIn_r _ [7, 1, 8, 9, 6, 10, 76, 77, 78, 79, 80, 81, 82, 83, 84, 85, 86, 87, 88] (by decide +kernel) (by decide +kernel)
set_option maxRecDepth 20000 in
theorem gX5_remove_X5_isSet : GoodIn wsX5_remove (wsV RX5 92 RX5 yX5_isSet wsX5_isSet) := goodIn_app (goodIn_of _ (by decide +kernel)) ggX5_remove_X5_isSet
set_option maxRecDepth 20000 in
theorem ggX5_remove_X5_isNumber : GoodIn wsX5_remove wsX5_isNumber := goodIn_r _ [13, 8, 9, 6, 10] (by decide +kernel) (by decide +kernel)
set_option maxRecDepth 20000 in
theorem gX5_remove_X5_isNumber : GoodIn wsX5_remove (va_wsS RX5 112 yX5_isNumber wsX5_isNumber) := goodIn_app (goodIn_of _ (by decide +kernel)) ggX5_remove_X5_isNumber
set_option maxRecDepth 20000 in
theorem ggX5_remove_X5_isIn : GoodIn wsX5_remove wsX5_isIn := goodIn_r _ [17, 18, 19, 20, 6, 21, 1, 76, 77, 78, 79, 80, 81, 82, 83, 84, 85, 86, 87, 88] (by decide +kernel) (by decide +kernel)
set_option maxRecDepth 20000 in
theorem gX5_remove_X5_isIn : GoodIn wsX5_remove (wsV RX5 51 RX5 yX5_isIn wsX5_isIn) := goodIn_app (goodIn_of _ (by decide +kernel)) ggX5_remove_X5_isIn
set_option maxRecDepth 20000 in
theorem ggX5_remove_X5_copies : GoodIn wsX5_remove wsX5_copies := goodIn_r _ [24] (by decide +kernel) (by decide +kernel)
set_option maxRecDepth 20000 in
theorem gX5_remove_X5_copies : GoodIn wsX5_remove (va_wsS RX5 35 yX5_copies wsX5_copies) := goodIn_app (goodIn_of _ (by decide +kernel)) ggX5_remove_X5_copies
set_option maxRecDepth 20000 in
theorem ggX5_remove_X5_goes : GoodIn wsX5_remove wsX5_goes := goodIn_r _ [28, 29, 30, 31, 6, 32, 18, 19, 20, 21, 1, 33, 34, 35, 36, 37, 38, 39, 40, 41, 42, 43, 44, 14, 15, 16, 17, 45, 46, 47, 48, 49, 50, 51, 52, 53, 54, 55, 56, 57, 58, 59, 60, 61, 62, 63, 64, 65, 66, 67, 68, 69, 76, 77, 78, 79, 80, 81, 82, 83, 84, 85, 86, 87, 88] (by decide +kernel) (by decide +kernel)
set_option maxRecDepth 20000 in
theorem gX5_remove_X5_goes : GoodIn wsX5_remove (wsV RX5 115 RX5 yX5_goes wsX5_goes) := goodIn_app (goodIn_of _ (by decide +kernel)) ggX5_remove_X5_goes
set_option maxRecDepth 20000 in
theorem ggX5_remove_X5_records : GoodIn wsX5_remove wsX5_records := goodIn_r _ [73, 74, 75, 22, 23, 6, 24, 76, 77, 78, 79, 80, 81, 82, 83, 84, 85, 86, 87, 88] (by decide +kernel) (by decide +kernel)
set_option maxRecDepth 20000 in
theorem gX5_remove_X5_records : GoodIn wsX5_remove (wsV RX5 88 RX5 yX5_records wsX5_records) := goodIn_app (goodIn_of _ (by decide +kernel)) ggX5_remove_X5_records
set_option maxRecDepth 20000 in
theorem ggX5_remove_X5_manyIn : GoodIn wsX5_remove wsX5_manyIn := goodIn_r _ [44, 14, 15, 16, 6, 17, 18, 19, 20, 21, 1, 76, 77, 78, 79, 80, 81, 82, 83, 84, 85, 86, 87, 88] (by decide +kernel) (by decide +kernel)
set_option maxRecDepth 20000 in
theorem gX5_remove_X5_manyIn : GoodIn wsX5_remove (wsV RX5 65 RX5 yX5_manyIn wsX5_manyIn) := goodIn_app (goodIn_of _ (by decide +kernel)) ggX5_remove_X5_manyIn
theorem dX5_remove_0 : decode cX5_remove 0 = .ok (.aload_n 0, 1) := by decide +kernel
theorem dX5_remove_1 : decode cX5_remove 1 = .ok (.iload_n 1, 1) := by decide +kernel
theorem dX5_remove_2 : decode cX5_remove 2 = .ok (.invokevirtual 92, 3) := by decide +kernel
theorem dX5_remove_5 : decode cX5_remove 5 = .ok (.ifCond .ne 5, 3) := by decide +kernel
theorem dX5_remove_8 : decode cX5_remove 8 = .ok (.iconst (-1), 1) := by decide +kernel
theorem dX5_remove_9 : decode cX5_remove 9 = .ok (.ireturn, 1) := by decide +kernel
theorem dX5_remove_10 : decode cX5_remove 10 = .ok (.iload_n 2, 1) := by decide +kernel
theorem dX5_remove_11 : decode cX5_remove 11 = .ok (.invokestatic 112, 3) := by decide +kernel
theorem dX5_remove_14 : decode cX5_remove 14 = .ok (.ifCond .ne 6, 3) := by decide +kernel
theorem dX5_remove_17 : decode cX5_remove 17 = .ok (.bipush (-2), 2) := by decide +kernel
theorem dX5_remove_19 : decode cX5_remove 19 = .ok (.ireturn, 1) := by decide +kernel
theorem dX5_remove_20 : decode cX5_remove 20 = .ok (.aload_n 0, 1) := by decide +kernel
theorem dX5_remove_21 : decode cX5_remove 21 = .ok (.iload_n 1, 1) := by decide +kernel
theorem dX5_remove_22 : decode cX5_remove 22 = .ok (.iload_n 2, 1) := by decide +kernel
theorem dX5_remove_23 : decode cX5_remove 23 = .ok (.invokevirtual 51, 3) := by decide +kernel
theorem dX5_remove_26 : decode cX5_remove 26 = .ok (.ifCond .ne 6, 3) := by decide +kernel
theorem dX5_remove_29 : decode cX5_remove 29 = .ok (.bipush (-5), 2) := by decide +kernel
theorem dX5_remove_31 : decode cX5_remove 31 = .ok (.ireturn, 1) := by decide +kernel
theorem dX5_remove_32 : decode cX5_remove 32 = .ok (.aload_n 0, 1) := by decide +kernel
theorem dX5_remove_33 : decode cX5_remove 33 = .ok (.getfield 7, 3) := by decide +kernel
theorem dX5_remove_36 : decode cX5_remove 36 = .ok (.iconst 0, 1) := by decide +kernel
theorem dX5_remove_37 : decode cX5_remove 37 = .ok (.aload_n 0, 1) := by decide +kernel
theorem dX5_remove_38 : decode cX5_remove 38 = .ok (.getfield 19, 3) := by decide +kernel
theorem dX5_remove_41 : decode cX5_remove 41 = .ok (.iconst 0, 1) := by decide +kernel
theorem dX5_remove_42 : decode cX5_remove 42 = .ok (.invokestatic 35, 3) := by decide +kernel
theorem dX5_remove_45 : decode cX5_remove 45 = .ok (.aload_n 0, 1) := by decide +kernel
theorem dX5_remove_46 : decode cX5_remove 46 = .ok (.iload_n 1, 1) := by decide +kernel
theorem dX5_remove_47 : decode cX5_remove 47 = .ok (.iload_n 2, 1) := by decide +kernel
theorem dX5_remove_48 : decode cX5_remove 48 = .ok (.iconst 0, 1) := by decide +kernel
theorem dX5_remove_49 : decode cX5_remove 49 = .ok (.invokevirtual 115, 3) := by decide +kernel
theorem dX5_remove_52 : decode cX5_remove 52 = .ok (.ifCond .ne 19, 3) := by decide +kernel
theorem dX5_remove_55 : decode cX5_remove 55 = .ok (.aload_n 0, 1) := by decide +kernel
theorem dX5_remove_56 : decode cX5_remove 56 = .ok (.getfield 19, 3) := by decide +kernel
theorem dX5_remove_59 : decode cX5_remove 59 = .ok (.iconst 0, 1) := by decide +kernel
theorem dX5_remove_60 : decode cX5_remove 60 = .ok (.aload_n 0, 1) := by decide +kernel
theorem dX5_remove_61 : decode cX5_remove 61 = .ok (.getfield 7, 3) := by decide +kernel
theorem dX5_remove_64 : decode cX5_remove 64 = .ok (.iconst 0, 1) := by decide +kernel
theorem dX5_remove_65 : decode cX5_remove 65 = .ok (.invokestatic 35, 3) := by decide +kernel
theorem dX5_remove_68 : decode cX5_remove 68 = .ok (.bipush (-3), 2) := by decide +kernel
theorem dX5_remove_70 : decode cX5_remove 70 = .ok (.ireturn, 1) := by decide +kernel
theorem dX5_remove_71 : decode cX5_remove 71 = .ok (.aload_n 0, 1) := by decide +kernel
theorem dX5_remove_72 : decode cX5_remove 72 = .ok (.aload_n 0, 1) := by decide +kernel
theorem dX5_remove_73 : decode cX5_remove 73 = .ok (.getfield 19, 3) := by decide +kernel
theorem dX5_remove_76 : decode cX5_remove 76 = .ok (.invokevirtual 88, 3) := by decide +kernel
theorem dX5_remove_79 : decode cX5_remove 79 = .ok (.aload_n 0, 1) := by decide +kernel
theorem dX5_remove_80 : decode cX5_remove 80 = .ok (.iload_n 1, 1) := by decide +kernel
theorem dX5_remove_81 : decode cX5_remove 81 = .ok (.iload_n 2, 1) := by decide +kernel
theorem dX5_remove_82 : decode cX5_remove 82 = .ok (.sipush 256, 3) := by decide +kernel
theorem dX5_remove_85 : decode cX5_remove 85 = .ok (.idiv, 1) := by decide +kernel
theorem dX5_remove_86 : decode cX5_remove 86 = .ok (.invokevirtual 65, 3) := by decide +kernel
theorem dX5_remove_89 : decode cX5_remove 89 = .ok (.ireturn, 1) := by decide +kernel
set_option maxRecDepth 20000 in
theorem ggX5_goesAll_X5_isIn : GoodIn wsX5_goesAll wsX5_isIn := goodIn_r _ [5, 6, 7, 8, 4, 9, 10, 56, 57, 58, 59, 60, 61, 62, 63, 64, 65, 66, 67, 68] (by decide +kernel) (by decide +kernel)
set_option maxRecDepth 20000 in
theorem gX5_goesAll_X5_isIn : GoodIn wsX5_goesAll (wsV RX5 51 RX5 yX5_isIn wsX5_isIn) := goodIn_app (goodIn_of _ (by decide +kernel)) ggX5_goesAll_X5_isIn
set_option maxRecDepth 20000 in
theorem ggX5_goesAll_X5_goes : GoodIn wsX5_goesAll wsX5_goes := goodIn_r _ [14, 15, 16, 17, 4, 18, 6, 7, 8, 9, 10, 19, 20, 21, 22, 23, 24, 25, 26, 27, 28, 29, 30, 1, 2, 3, 5, 31, 32, 33, 34, 35, 36, 37, 38, 39, 40, 41, 42, 43, 44, 45, 46, 47, 48, 49, 50, 51, 52, 53, 54, 55, 56, 57, 58, 59, 60, 61, 62, 63, 64, 65, 66, 67, 68] (by decide +kernel) (by decide +kernel)
set_option maxRecDepth 20000 in
theorem gX5_goesAll_X5_goes : GoodIn wsX5_goesAll (wsV RX5 115 RX5 yX5_goes wsX5_goes) := goodIn_app (goodIn_of _ (by decide +kernel)) ggX5_goesAll_X5_goes
theorem dX5_goesAll_0 : decode cX5_goesAll 0 = .ok (.iconst 0, 1) := by decide +kernel
theorem dX5_goesAll_1 : decode cX5_goesAll 1 = .ok (.istore 5, 2) := by decide +kernel
theorem dX5_goesAll_3 : decode cX5_goesAll 3 = .ok (.iload_n 2, 1) := by decide +kernel
theorem dX5_goesAll_4 : decode cX5_goesAll 4 = .ok (.istore 6, 2) := by decide +kernel
theorem dX5_goesAll_6 : decode cX5_goesAll 6 = .ok (.iload 6, 2) := by decide +kernel
theorem dX5_goesAll_8 : decode cX5_goesAll 8 = .ok (.iload_n 3, 1) := by decide +kernel
theorem dX5_goesAll_9 : decode cX5_goesAll 9 = .ok (.if_icmp .gt 38, 3) := by decide +kernel
theorem dX5_goesAll_12 : decode cX5_goesAll 12 = .ok (.aload_n 0, 1) := by decide +kernel
theorem dX5_goesAll_13 : decode cX5_goesAll 13 = .ok (.iload_n 1, 1) := by decide +kernel
theorem dX5_goesAll_14 : decode cX5_goesAll 14 = .ok (.iload 6, 2) := by decide +kernel
theorem dX5_goesAll_16 : decode cX5_goesAll 16 = .ok (.invokevirtual 51, 3) := by decide +kernel
theorem dX5_goesAll_19 : decode cX5_goesAll 19 = .ok (.iload 4, 2) := by decide +kernel
theorem dX5_goesAll_21 : decode cX5_goesAll 21 = .ok (.if_icmp .eq 20, 3) := by decide +kernel
theorem dX5_goesAll_24 : decode cX5_goesAll 24 = .ok (.aload_n 0, 1) := by decide +kernel
theorem dX5_goesAll_25 : decode cX5_goesAll 25 = .ok (.iload_n 1, 1) := by decide +kernel
theorem dX5_goesAll_26 : decode cX5_goesAll 26 = .ok (.iload 6, 2) := by decide +kernel
theorem dX5_goesAll_28 : decode cX5_goesAll 28 = .ok (.iload 4, 2) := by decide +kernel
theorem dX5_goesAll_30 : decode cX5_goesAll 30 = .ok (.invokevirtual 115, 3) := by decide +kernel
theorem dX5_goesAll_33 : decode cX5_goesAll 33 = .ok (.ifCond .ne 5, 3) := by decide +kernel
theorem dX5_goesAll_36 : decode cX5_goesAll 36 = .ok (.iconst (-1), 1) := by decide +kernel
theorem dX5_goesAll_37 : decode cX5_goesAll 37 = .ok (.ireturn, 1) := by decide +kernel
theorem dX5_goesAll_38 : decode cX5_goesAll 38 = .ok (.iinc 5 1, 3) := by decide +kernel
theorem dX5_goesAll_41 : decode cX5_goesAll 41 = .ok (.iinc 6 1, 3) := by decide +kernel
theorem dX5_goesAll_44 : decode cX5_goesAll 44 = .ok (.goto (-38), 3) := by decide +kernel
theorem dX5_goesAll_47 : decode cX5_goesAll 47 = .ok (.iload 5, 2) := by decide +kernel
theorem dX5_goesAll_49 : decode cX5_goesAll 49 = .ok (.ireturn, 1) := by decide +kernel
set_option maxRecDepth 20000 in
theorem ggX5_ends_X5_copies : GoodIn wsX5_ends wsX5_copies := goodIn_r _ [6] (by decide +kernel) (by decide +kernel)
set_option maxRecDepth 20000 in
theorem gX5_ends_X5_copies : GoodIn wsX5_ends (va_wsS RX5 35 yX5_copies wsX5_copies) := goodIn_app (goodIn_of _ (by decide +kernel)) ggX5_ends_X5_copies
set_option maxRecDepth 20000 in
theorem ggX5_ends_X5_records : GoodIn wsX5_ends wsX5_records := goodIn_r _ [10, 11, 12, 3, 4, 5, 6, 13, 14, 15, 16, 17, 18, 19, 20, 21, 22, 23, 24, 25] (by decide +kernel) (by decide +kernel)
set_option maxRecDepth 20000 in
theorem gX5_ends_X5_records : GoodIn wsX5_ends (wsV RX5 88 RX5 yX5_records wsX5_records) := goodIn_app (goodIn_of _ (by decide +kernel)) ggX5_ends_X5_records
theorem dX5_ends_0 : decode cX5_ends 0 = .ok (.iload_n 1, 1) := by decide +kernel
theorem dX5_ends_1 : decode cX5_ends 1 = .ok (.ifCond .gt 28, 3) := by decide +kernel
theorem dX5_ends_4 : decode cX5_ends 4 = .ok (.aload_n 0, 1) := by decide +kernel
theorem dX5_ends_5 : decode cX5_ends 5 = .ok (.getfield 19, 3) := by decide +kernel
theorem dX5_ends_8 : decode cX5_ends 8 = .ok (.iconst 0, 1) := by decide +kernel
theorem dX5_ends_9 : decode cX5_ends 9 = .ok (.aload_n 0, 1) := by decide +kernel
theorem dX5_ends_10 : decode cX5_ends 10 = .ok (.getfield 7, 3) := by decide +kernel
theorem dX5_ends_13 : decode cX5_ends 13 = .ok (.iconst 0, 1) := by decide +kernel
theorem dX5_ends_14 : decode cX5_ends 14 = .ok (.invokestatic 35, 3) := by decide +kernel
theorem dX5_ends_17 : decode cX5_ends 17 = .ok (.iload_n 1, 1) := by decide +kernel
theorem dX5_ends_18 : decode cX5_ends 18 = .ok (.ifCond .ne 8, 3) := by decide +kernel
theorem dX5_ends_21 : decode cX5_ends 21 = .ok (.bipush (-5), 2) := by decide +kernel
theorem dX5_ends_23 : decode cX5_ends 23 = .ok (.goto 5, 3) := by decide +kernel
theorem dX5_ends_26 : decode cX5_ends 26 = .ok (.bipush (-3), 2) := by decide +kernel
theorem dX5_ends_28 : decode cX5_ends 28 = .ok (.ireturn, 1) := by decide +kernel
theorem dX5_ends_29 : decode cX5_ends 29 = .ok (.aload_n 0, 1) := by decide +kernel
theorem dX5_ends_30 : decode cX5_ends 30 = .ok (.aload_n 0, 1) := by decide +kernel
theorem dX5_ends_31 : decode cX5_ends 31 = .ok (.getfield 19, 3) := by decide +kernel
theorem dX5_ends_34 : decode cX5_ends 34 = .ok (.invokevirtual 88, 3) := by decide +kernel
theorem dX5_ends_37 : decode cX5_ends 37 = .ok (.iload_n 1, 1) := by decide +kernel
theorem dX5_ends_38 : decode cX5_ends 38 = .ok (.ireturn, 1) := by decide +kernel
set_option maxRecDepth 20000 in
theorem ggX5_ranges_X5_isSet : GoodIn wsX5_ranges wsX5_isSet := goodIn_r _ [7, 1, 8, 9, 6, 10, 84, 85, 86, 87, 88, 89, 90, 91, 92, 93, 94, 95, 96] (by decide +kernel) (by decide +kernel)
set_option maxRecDepth 20000 in
theorem gX5_ranges_X5_isSet : GoodIn wsX5_ranges (wsV RX5 92 RX5 yX5_isSet wsX5_isSet) := goodIn_app (goodIn_of _ (by decide +kernel)) ggX5_ranges_X5_isSet
set_option maxRecDepth 20000 in
theorem ggX5_ranges_X5_isNumber : GoodIn wsX5_ranges wsX5_isNumber := goodIn_r _ [13, 8, 9, 6, 10] (by decide +kernel) (by decide +kernel)
set_option maxRecDepth 20000 in
theorem gX5_ranges_X5_isNumber : GoodIn wsX5_ranges (va_wsS RX5 112 yX5_isNumber wsX5_isNumber) := goodIn_app (goodIn_of _ (by decide +kernel)) ggX5_ranges_X5_isNumber
set_option maxRecDepth 20000 in
theorem ggX5_ranges_X5_in : GoodIn wsX5_ranges wsX5_in := goodIn_r _ [10] (by decide +kernel) (by decide +kernel)
set_option maxRecDepth 20000 in
theorem gX5_ranges_X5_in : GoodIn wsX5_ranges (va_wsS RX5 39 yX5_in wsX5_in) := goodIn_app (goodIn_of _ (by decide +kernel)) ggX5_ranges_X5_in
set_option maxRecDepth 20000 in
theorem ggX5_ranges_X5_copies : GoodIn wsX5_ranges wsX5_copies := goodIn_r _ [16] (by decide +kernel) (by decide +kernel)
set_option maxRecDepth 20000 in
theorem gX5_ranges_X5_copies : GoodIn wsX5_ranges (va_wsS RX5 35 yX5_copies wsX5_copies) := goodIn_app (goodIn_of _ (by decide +kernel)) ggX5_ranges_X5_copies
set_option maxRecDepth 20000 in
theorem ggX5_ranges_X5_goesAll : GoodIn wsX5_ranges wsX5_goesAll := goodIn_r _ [20, 21, 22, 23, 6, 24, 25, 26, 27, 28, 1, 29, 30, 31, 32, 33, 34, 35, 36, 37, 38, 39, 40, 41, 42, 43, 44, 45, 46, 47, 48, 49, 50, 51, 52, 53, 54, 55, 56, 57, 58, 59, 60, 61, 62, 63, 64, 65, 66, 67, 68, 69, 70, 71, 72, 73, 84, 85, 86, 87, 88, 89, 90, 91, 92, 93, 94, 95, 96] (by decide +kernel) (by decide +kernel)
set_option maxRecDepth 20000 in
theorem gX5_ranges_X5_goesAll : GoodIn wsX5_ranges (wsV RX5 119 RX5 yX5_goesAll wsX5_goesAll) := goodIn_app (goodIn_of _ (by decide +kernel)) ggX5_ranges_X5_goesAll
set_option maxRecDepth 20000 in
theorem ggX5_ranges_X5_ends : GoodIn wsX5_ranges wsX5_ends := goodIn_r _ [77, 2, 1, 14, 15, 6, 16, 78, 79, 80, 81, 82, 83, 84, 85, 86, 87, 88, 89, 90, 91, 92, 93, 94, 95, 96] (by decide +kernel) (by decide +kernel)
set_option maxRecDepth 20000 in
theorem gX5_ranges_X5_ends : GoodIn wsX5_ranges (wsV RX5 123 RX5 yX5_ends wsX5_ends) := goodIn_app (goodIn_of _ (by decide +kernel)) ggX5_ranges_X5_ends
theorem dX5_ranges_0 : decode cX5_ranges 0 = .ok (.aload_n 0, 1) := by decide +kernel
theorem dX5_ranges_1 : decode cX5_ranges 1 = .ok (.iload_n 1, 1) := by decide +kernel
theorem dX5_ranges_2 : decode cX5_ranges 2 = .ok (.invokevirtual 92, 3) := by decide +kernel
theorem dX5_ranges_5 : decode cX5_ranges 5 = .ok (.ifCond .ne 5, 3) := by decide +kernel
theorem dX5_ranges_8 : decode cX5_ranges 8 = .ok (.iconst (-1), 1) := by decide +kernel
theorem dX5_ranges_9 : decode cX5_ranges 9 = .ok (.ireturn, 1) := by decide +kernel
theorem dX5_ranges_10 : decode cX5_ranges 10 = .ok (.iload_n 2, 1) := by decide +kernel
theorem dX5_ranges_11 : decode cX5_ranges 11 = .ok (.invokestatic 112, 3) := by decide +kernel
theorem dX5_ranges_14 : decode cX5_ranges 14 = .ok (.ifCond .eq 14, 3) := by decide +kernel
theorem dX5_ranges_17 : decode cX5_ranges 17 = .ok (.iload_n 3, 1) := by decide +kernel
theorem dX5_ranges_18 : decode cX5_ranges 18 = .ok (.iload_n 2, 1) := by decide +kernel
theorem dX5_ranges_19 : decode cX5_ranges 19 = .ok (.sipush 2047, 3) := by decide +kernel
theorem dX5_ranges_22 : decode cX5_ranges 22 = .ok (.invokestatic 39, 3) := by decide +kernel
theorem dX5_ranges_25 : decode cX5_ranges 25 = .ok (.ifCond .ne 6, 3) := by decide +kernel
theorem dX5_ranges_28 : decode cX5_ranges 28 = .ok (.bipush (-2), 2) := by decide +kernel
theorem dX5_ranges_30 : decode cX5_ranges 30 = .ok (.ireturn, 1) := by decide +kernel
theorem dX5_ranges_31 : decode cX5_ranges 31 = .ok (.aload_n 0, 1) := by decide +kernel
theorem dX5_ranges_32 : decode cX5_ranges 32 = .ok (.getfield 7, 3) := by decide +kernel
theorem dX5_ranges_35 : decode cX5_ranges 35 = .ok (.iconst 0, 1) := by decide +kernel
theorem dX5_ranges_36 : decode cX5_ranges 36 = .ok (.aload_n 0, 1) := by decide +kernel
theorem dX5_ranges_37 : decode cX5_ranges 37 = .ok (.getfield 19, 3) := by decide +kernel
theorem dX5_ranges_40 : decode cX5_ranges 40 = .ok (.iconst 0, 1) := by decide +kernel
theorem dX5_ranges_41 : decode cX5_ranges 41 = .ok (.invokestatic 35, 3) := by decide +kernel
theorem dX5_ranges_44 : decode cX5_ranges 44 = .ok (.aload_n 0, 1) := by decide +kernel
theorem dX5_ranges_45 : decode cX5_ranges 45 = .ok (.aload_n 0, 1) := by decide +kernel
theorem dX5_ranges_46 : decode cX5_ranges 46 = .ok (.iload_n 1, 1) := by decide +kernel
theorem dX5_ranges_47 : decode cX5_ranges 47 = .ok (.iload_n 2, 1) := by decide +kernel
theorem dX5_ranges_48 : decode cX5_ranges 48 = .ok (.iload_n 3, 1) := by decide +kernel
theorem dX5_ranges_49 : decode cX5_ranges 49 = .ok (.iload 4, 2) := by decide +kernel
theorem dX5_ranges_51 : decode cX5_ranges 51 = .ok (.invokevirtual 119, 3) := by decide +kernel
theorem dX5_ranges_54 : decode cX5_ranges 54 = .ok (.invokevirtual 123, 3) := by decide +kernel
theorem dX5_ranges_57 : decode cX5_ranges 57 = .ok (.ireturn, 1) := by decide +kernel
set_option maxRecDepth 20000 in
theorem ggX5_addRange_X5_ranges : GoodIn wsX5_addRange wsX5_ranges := goodIn_r _ [5, 6, 7, 8, 9, 10, 4, 11, 12, 13, 14, 15, 16, 17, 18, 19, 20, 21, 22, 23, 24, 25, 26, 27, 28, 29, 30, 31, 32, 33, 34, 35, 36, 37, 38, 39, 40, 41, 42, 43, 44, 45, 46, 47, 48, 49, 50, 51, 52, 53, 54, 55, 56, 57, 58, 59, 60, 61, 62, 63, 64, 65, 66, 67, 68, 69, 70, 71, 72, 73, 74, 75, 76, 77, 78, 79, 80, 81, 82, 83, 84, 85, 86, 87, 88, 89, 90, 91, 92, 93, 94, 95, 96, 97, 98, 99, 100] (by decide +kernel) (by decide +kernel)
set_option maxRecDepth 20000 in
theorem gX5_addRange_X5_ranges : GoodIn wsX5_addRange (wsV RX5 126 RX5 yX5_ranges wsX5_ranges) := goodIn_app (goodIn_of _ (by decide +kernel)) ggX5_addRange_X5_ranges
theorem dX5_addRange_0 : decode cX5_addRange 0 = .ok (.aload_n 0, 1) := by decide +kernel
theorem dX5_addRange_1 : decode cX5_addRange 1 = .ok (.iload_n 1, 1) := by decide +kernel
theorem dX5_addRange_2 : decode cX5_addRange 2 = .ok (.iload_n 2, 1) := by decide +kernel
theorem dX5_addRange_3 : decode cX5_addRange 3 = .ok (.iload_n 3, 1) := by decide +kernel
theorem dX5_addRange_4 : decode cX5_addRange 4 = .ok (.iconst 1, 1) := by decide +kernel
theorem dX5_addRange_5 : decode cX5_addRange 5 = .ok (.invokevirtual 126, 3) := by decide +kernel
theorem dX5_addRange_8 : decode cX5_addRange 8 = .ok (.ireturn, 1) := by decide +kernel
set_option maxRecDepth 20000 in
theorem ggX5_removeRange_X5_ranges : GoodIn wsX5_removeRange wsX5_ranges := goodIn_r _ [5, 6, 7, 8, 9, 10, 4, 11, 12, 13, 14, 15, 16, 17, 18, 19, 20, 21, 22, 23, 24, 25, 26, 27, 28, 29, 30, 31, 32, 33, 34, 35, 36, 37, 38, 39, 40, 41, 42, 43, 44, 45, 46, 47, 48, 49, 50, 51, 52, 53, 54, 55, 56, 57, 58, 59, 60, 61, 62, 63, 64, 65, 66, 67, 68, 69, 70, 71, 72, 73, 74, 75, 76, 77, 78, 79, 80, 81, 82, 83, 84, 85, 86, 87, 88, 89, 90, 91, 92, 93, 94, 95, 96, 97, 98, 99, 100] (by decide +kernel) (by decide +kernel)
set_option maxRecDepth 20000 in
theorem gX5_removeRange_X5_ranges : GoodIn wsX5_removeRange (wsV RX5 126 RX5 yX5_ranges wsX5_ranges) := goodIn_app (goodIn_of _ (by decide +kernel)) ggX5_removeRange_X5_ranges
theorem dX5_removeRange_0 : decode cX5_removeRange 0 = .ok (.aload_n 0, 1) := by decide +kernel
theorem dX5_removeRange_1 : decode cX5_removeRange 1 = .ok (.iload_n 1, 1) := by decide +kernel
theorem dX5_removeRange_2 : decode cX5_removeRange 2 = .ok (.iload_n 2, 1) := by decide +kernel
theorem dX5_removeRange_3 : decode cX5_removeRange 3 = .ok (.iload_n 3, 1) := by decide +kernel
theorem dX5_removeRange_4 : decode cX5_removeRange 4 = .ok (.iconst 0, 1) := by decide +kernel
theorem dX5_removeRange_5 : decode cX5_removeRange 5 = .ok (.invokevirtual 126, 3) := by decide +kernel
theorem dX5_removeRange_8 : decode cX5_removeRange 8 = .ok (.ireturn, 1) := by decide +kernel
theorem dX5_gives_0 : decode cX5_gives 0 = .ok (.iload_n 0, 1) := by decide +kernel
theorem dX5_gives_1 : decode cX5_gives 1 = .ok (.ifCond .ne 19, 3) := by decide +kernel
theorem dX5_gives_4 : decode cX5_gives 4 = .ok (.iload_n 1, 1) := by decide +kernel
theorem dX5_gives_5 : decode cX5_gives 5 = .ok (.ifCond .ne 7, 3) := by decide +kernel
theorem dX5_gives_8 : decode cX5_gives 8 = .ok (.iload_n 2, 1) := by decide +kernel
theorem dX5_gives_9 : decode cX5_gives 9 = .ok (.ifCond .eq 7, 3) := by decide +kernel
theorem dX5_gives_12 : decode cX5_gives 12 = .ok (.iconst 1, 1) := by decide +kernel
theorem dX5_gives_13 : decode cX5_gives 13 = .ok (.goto 59, 3) := by decide +kernel
theorem dX5_gives_16 : decode cX5_gives 16 = .ok (.iconst 0, 1) := by decide +kernel
theorem dX5_gives_17 : decode cX5_gives 17 = .ok (.goto 55, 3) := by decide +kernel
theorem dX5_gives_20 : decode cX5_gives 20 = .ok (.iload_n 0, 1) := by decide +kernel
theorem dX5_gives_21 : decode cX5_gives 21 = .ok (.iconst 1, 1) := by decide +kernel
theorem dX5_gives_22 : decode cX5_gives 22 = .ok (.if_icmp .ne 19, 3) := by decide +kernel
theorem dX5_gives_25 : decode cX5_gives 25 = .ok (.iload_n 1, 1) := by decide +kernel
theorem dX5_gives_26 : decode cX5_gives 26 = .ok (.ifCond .eq 11, 3) := by decide +kernel
theorem dX5_gives_29 : decode cX5_gives 29 = .ok (.iload_n 2, 1) := by decide +kernel
theorem dX5_gives_30 : decode cX5_gives 30 = .ok (.ifCond .eq 7, 3) := by decide +kernel
theorem dX5_gives_33 : decode cX5_gives 33 = .ok (.iconst 1, 1) := by decide +kernel
theorem dX5_gives_34 : decode cX5_gives 34 = .ok (.goto 38, 3) := by decide +kernel
theorem dX5_gives_37 : decode cX5_gives 37 = .ok (.iconst 0, 1) := by decide +kernel
theorem dX5_gives_38 : decode cX5_gives 38 = .ok (.goto 34, 3) := by decide +kernel
theorem dX5_gives_41 : decode cX5_gives 41 = .ok (.iload_n 0, 1) := by decide +kernel
theorem dX5_gives_42 : decode cX5_gives 42 = .ok (.iconst 2, 1) := by decide +kernel
theorem dX5_gives_43 : decode cX5_gives 43 = .ok (.if_icmp .ne 19, 3) := by decide +kernel
theorem dX5_gives_46 : decode cX5_gives 46 = .ok (.iload_n 1, 1) := by decide +kernel
theorem dX5_gives_47 : decode cX5_gives 47 = .ok (.ifCond .eq 11, 3) := by decide +kernel
theorem dX5_gives_50 : decode cX5_gives 50 = .ok (.iload_n 2, 1) := by decide +kernel
theorem dX5_gives_51 : decode cX5_gives 51 = .ok (.ifCond .ne 7, 3) := by decide +kernel
theorem dX5_gives_54 : decode cX5_gives 54 = .ok (.iconst 1, 1) := by decide +kernel
theorem dX5_gives_55 : decode cX5_gives 55 = .ok (.goto 17, 3) := by decide +kernel
theorem dX5_gives_58 : decode cX5_gives 58 = .ok (.iconst 0, 1) := by decide +kernel
theorem dX5_gives_59 : decode cX5_gives 59 = .ok (.goto 13, 3) := by decide +kernel
theorem dX5_gives_62 : decode cX5_gives 62 = .ok (.iload_n 1, 1) := by decide +kernel
theorem dX5_gives_63 : decode cX5_gives 63 = .ok (.iload_n 2, 1) := by decide +kernel
theorem dX5_gives_64 : decode cX5_gives 64 = .ok (.if_icmp .eq 7, 3) := by decide +kernel
theorem dX5_gives_67 : decode cX5_gives 67 = .ok (.iconst 1, 1) := by decide +kernel
theorem dX5_gives_68 : decode cX5_gives 68 = .ok (.goto 4, 3) := by decide +kernel
theorem dX5_gives_71 : decode cX5_gives 71 = .ok (.iconst 0, 1) := by decide +kernel
theorem dX5_gives_72 : decode cX5_gives 72 = .ok (.ireturn, 1) := by decide +kernel
set_option maxRecDepth 20000 in
theorem ggX5_laysGiven_X5_isIn : GoodIn wsX5_laysGiven wsX5_isIn := goodIn_r _ [6, 7, 8, 9, 5, 10, 11, 15, 16, 17, 18, 19, 20, 21, 22, 23, 24, 25, 26, 27] (by decide +kernel) (by decide +kernel)
set_option maxRecDepth 20000 in
theorem gX5_laysGiven_X5_isIn : GoodIn wsX5_laysGiven (wsV RX5 51 RX5 yX5_isIn wsX5_isIn) := goodIn_app (goodIn_of _ (by decide +kernel)) ggX5_laysGiven_X5_isIn
set_option maxRecDepth 20000 in
theorem ggX5_laysGiven_X5_gives : GoodIn wsX5_laysGiven wsX5_gives := goodIn_r _ [14] (by decide +kernel) (by decide +kernel)
set_option maxRecDepth 20000 in
theorem gX5_laysGiven_X5_gives : GoodIn wsX5_laysGiven (va_wsS RX5 129 yX5_gives wsX5_gives) := goodIn_app (goodIn_of _ (by decide +kernel)) ggX5_laysGiven_X5_gives
theorem dX5_laysGiven_0 : decode cX5_laysGiven 0 = .ok (.iconst 0, 1) := by decide +kernel
theorem dX5_laysGiven_1 : decode cX5_laysGiven 1 = .ok (.istore 4, 2) := by decide +kernel
theorem dX5_laysGiven_3 : decode cX5_laysGiven 3 = .ok (.iconst 0, 1) := by decide +kernel
theorem dX5_laysGiven_4 : decode cX5_laysGiven 4 = .ok (.istore 5, 2) := by decide +kernel
theorem dX5_laysGiven_6 : decode cX5_laysGiven 6 = .ok (.iload 5, 2) := by decide +kernel
theorem dX5_laysGiven_8 : decode cX5_laysGiven 8 = .ok (.bipush 64, 2) := by decide +kernel
theorem dX5_laysGiven_10 : decode cX5_laysGiven 10 = .ok (.if_icmp .ge 17, 3) := by decide +kernel
theorem dX5_laysGiven_13 : decode cX5_laysGiven 13 = .ok (.aload_n 0, 1) := by decide +kernel
theorem dX5_laysGiven_14 : decode cX5_laysGiven 14 = .ok (.getfield 25, 3) := by decide +kernel
theorem dX5_laysGiven_17 : decode cX5_laysGiven 17 = .ok (.iload 5, 2) := by decide +kernel
theorem dX5_laysGiven_19 : decode cX5_laysGiven 19 = .ok (.iconst 0, 1) := by decide +kernel
theorem dX5_laysGiven_20 : decode cX5_laysGiven 20 = .ok (.iastore, 1) := by decide +kernel
theorem dX5_laysGiven_21 : decode cX5_laysGiven 21 = .ok (.iinc 5 1, 3) := by decide +kernel
theorem dX5_laysGiven_24 : decode cX5_laysGiven 24 = .ok (.goto (-18), 3) := by decide +kernel
theorem dX5_laysGiven_27 : decode cX5_laysGiven 27 = .ok (.iconst 0, 1) := by decide +kernel
theorem dX5_laysGiven_28 : decode cX5_laysGiven 28 = .ok (.istore 5, 2) := by decide +kernel
theorem dX5_laysGiven_30 : decode cX5_laysGiven 30 = .ok (.iload 5, 2) := by decide +kernel
theorem dX5_laysGiven_32 : decode cX5_laysGiven 32 = .ok (.sipush 2048, 3) := by decide +kernel
theorem dX5_laysGiven_35 : decode cX5_laysGiven 35 = .ok (.if_icmp .ge 53, 3) := by decide +kernel
theorem dX5_laysGiven_38 : decode cX5_laysGiven 38 = .ok (.iload_n 1, 1) := by decide +kernel
theorem dX5_laysGiven_39 : decode cX5_laysGiven 39 = .ok (.aload_n 0, 1) := by decide +kernel
theorem dX5_laysGiven_40 : decode cX5_laysGiven 40 = .ok (.iload_n 2, 1) := by decide +kernel
theorem dX5_laysGiven_41 : decode cX5_laysGiven 41 = .ok (.iload 5, 2) := by decide +kernel
theorem dX5_laysGiven_43 : decode cX5_laysGiven 43 = .ok (.invokevirtual 51, 3) := by decide +kernel
theorem dX5_laysGiven_46 : decode cX5_laysGiven 46 = .ok (.aload_n 0, 1) := by decide +kernel
theorem dX5_laysGiven_47 : decode cX5_laysGiven 47 = .ok (.iload_n 3, 1) := by decide +kernel
theorem dX5_laysGiven_48 : decode cX5_laysGiven 48 = .ok (.iload 5, 2) := by decide +kernel
theorem dX5_laysGiven_50 : decode cX5_laysGiven 50 = .ok (.invokevirtual 51, 3) := by decide +kernel
theorem dX5_laysGiven_53 : decode cX5_laysGiven 53 = .ok (.invokestatic 129, 3) := by decide +kernel
theorem dX5_laysGiven_56 : decode cX5_laysGiven 56 = .ok (.ifCond .eq 26, 3) := by decide +kernel
theorem dX5_laysGiven_59 : decode cX5_laysGiven 59 = .ok (.aload_n 0, 1) := by decide +kernel
theorem dX5_laysGiven_60 : decode cX5_laysGiven 60 = .ok (.getfield 25, 3) := by decide +kernel
theorem dX5_laysGiven_63 : decode cX5_laysGiven 63 = .ok (.iload 5, 2) := by decide +kernel
theorem dX5_laysGiven_65 : decode cX5_laysGiven 65 = .ok (.bipush 32, 2) := by decide +kernel
theorem dX5_laysGiven_67 : decode cX5_laysGiven 67 = .ok (.idiv, 1) := by decide +kernel
theorem dX5_laysGiven_68 : decode cX5_laysGiven 68 = .ok (.dup2, 1) := by decide +kernel
theorem dX5_laysGiven_69 : decode cX5_laysGiven 69 = .ok (.iaload, 1) := by decide +kernel
theorem dX5_laysGiven_70 : decode cX5_laysGiven 70 = .ok (.iconst 1, 1) := by decide +kernel
theorem dX5_laysGiven_71 : decode cX5_laysGiven 71 = .ok (.iload 5, 2) := by decide +kernel
theorem dX5_laysGiven_73 : decode cX5_laysGiven 73 = .ok (.bipush 32, 2) := by decide +kernel
theorem dX5_laysGiven_75 : decode cX5_laysGiven 75 = .ok (.irem, 1) := by decide +kernel
theorem dX5_laysGiven_76 : decode cX5_laysGiven 76 = .ok (.ishl, 1) := by decide +kernel
theorem dX5_laysGiven_77 : decode cX5_laysGiven 77 = .ok (.ior, 1) := by decide +kernel
theorem dX5_laysGiven_78 : decode cX5_laysGiven 78 = .ok (.iastore, 1) := by decide +kernel
theorem dX5_laysGiven_79 : decode cX5_laysGiven 79 = .ok (.iinc 4 1, 3) := by decide +kernel
theorem dX5_laysGiven_82 : decode cX5_laysGiven 82 = .ok (.iinc 5 1, 3) := by decide +kernel
theorem dX5_laysGiven_85 : decode cX5_laysGiven 85 = .ok (.goto (-55), 3) := by decide +kernel
theorem dX5_laysGiven_88 : decode cX5_laysGiven 88 = .ok (.iload 4, 2) := by decide +kernel
theorem dX5_laysGiven_90 : decode cX5_laysGiven 90 = .ok (.ireturn, 1) := by decide +kernel
set_option maxRecDepth 20000 in
theorem ggX5_combine_X5_isSet : GoodIn wsX5_combine wsX5_isSet := goodIn_r _ [7, 1, 8, 9, 6, 10, 60, 61, 62, 63, 64, 65, 66, 67, 68, 69, 70, 71, 72] (by decide +kernel) (by decide +kernel)
set_option maxRecDepth 20000 in
theorem gX5_combine_X5_isSet : GoodIn wsX5_combine (wsV RX5 92 RX5 yX5_isSet wsX5_isSet) := goodIn_app (goodIn_of _ (by decide +kernel)) ggX5_combine_X5_isSet
set_option maxRecDepth 20000 in
theorem ggX5_combine_X5_in : GoodIn wsX5_combine wsX5_in := goodIn_r _ [10] (by decide +kernel) (by decide +kernel)
set_option maxRecDepth 20000 in
theorem gX5_combine_X5_in : GoodIn wsX5_combine (va_wsS RX5 39 yX5_in wsX5_in) := goodIn_app (goodIn_of _ (by decide +kernel)) ggX5_combine_X5_in
set_option maxRecDepth 20000 in
theorem ggX5_combine_X5_of : GoodIn wsX5_combine wsX5_of := goodIn_r _ [14, 1, 60, 61, 62, 63, 64, 65, 66, 67, 68, 69, 70, 71, 72] (by decide +kernel) (by decide +kernel)
set_option maxRecDepth 20000 in
theorem gX5_combine_X5_of : GoodIn wsX5_combine (wsV RX5 43 RX5 yX5_of wsX5_of) := goodIn_app (goodIn_of _ (by decide +kernel)) ggX5_combine_X5_of
set_option maxRecDepth 20000 in
theorem ggX5_combine_X5_records : GoodIn wsX5_combine wsX5_records := goodIn_r _ [18, 19, 20, 21, 22, 6, 23, 60, 61, 62, 63, 64, 65, 66, 67, 68, 69, 70, 71, 72] (by decide +kernel) (by decide +kernel)
set_option maxRecDepth 20000 in
theorem gX5_combine_X5_records : GoodIn wsX5_combine (wsV RX5 88 RX5 yX5_records wsX5_records) := goodIn_app (goodIn_of _ (by decide +kernel)) ggX5_combine_X5_records
set_option maxRecDepth 20000 in
theorem ggX5_combine_X5_laysGiven : GoodIn wsX5_combine wsX5_laysGiven := goodIn_r _ [27, 2, 28, 29, 30, 6, 31, 11, 12, 13, 14, 1, 32, 33, 34, 60, 61, 62, 63, 64, 65, 66, 67, 68, 69, 70, 71, 72] (by decide +kernel) (by decide +kernel)
set_option maxRecDepth 20000 in
theorem gX5_combine_X5_laysGiven : GoodIn wsX5_combine (wsV RX5 133 RX5 yX5_laysGiven wsX5_laysGiven) := goodIn_app (goodIn_of _ (by decide +kernel)) ggX5_combine_X5_laysGiven
set_option maxRecDepth 20000 in
theorem ggX5_combine_X5_lays : GoodIn wsX5_combine wsX5_lays := goodIn_r _ [38, 1, 60, 61, 62, 63, 64, 65, 66, 67, 68, 69, 70, 71, 72] (by decide +kernel) (by decide +kernel)
set_option maxRecDepth 20000 in
theorem gX5_combine_X5_lays : GoodIn wsX5_combine (wsV RX5 47 RX5 yX5_lays wsX5_lays) := goodIn_app (goodIn_of _ (by decide +kernel)) ggX5_combine_X5_lays
set_option maxRecDepth 20000 in
theorem ggX5_combine_X5_manyIn : GoodIn wsX5_combine wsX5_manyIn := goodIn_r _ [42, 28, 29, 30, 6, 31, 11, 12, 13, 14, 1, 60, 61, 62, 63, 64, 65, 66, 67, 68, 69, 70, 71, 72] (by decide +kernel) (by decide +kernel)
set_option maxRecDepth 20000 in
theorem gX5_combine_X5_manyIn : GoodIn wsX5_combine (wsV RX5 65 RX5 yX5_manyIn wsX5_manyIn) := goodIn_app (goodIn_of _ (by decide +kernel)) ggX5_combine_X5_manyIn
set_option maxRecDepth 20000 in
theorem ggX5_combine_X5_bestOf : GoodIn wsX5_combine wsX5_bestOf := goodIn_r _ [46, 39, 40, 41, 6, 42, 28, 29, 30, 31, 11, 12, 13, 14, 1, 47, 48, 49, 50, 51, 52, 53, 54, 55, 56, 57, 58, 59, 60, 61, 62, 63, 64, 65, 66, 67, 68, 69, 70, 71, 72] (by decide +kernel) (by decide +kernel)
set_option maxRecDepth 20000 in
theorem gX5_combine_X5_bestOf : GoodIn wsX5_combine (wsV RX5 74 RX5 yX5_bestOf wsX5_bestOf) := goodIn_app (goodIn_of _ (by decide +kernel)) ggX5_combine_X5_bestOf
theorem dX5_combine_0 : decode cX5_combine 0 = .ok (.aload_n 0, 1) := by decide +kernel
theorem dX5_combine_1 : decode cX5_combine 1 = .ok (.iload_n 2, 1) := by decide +kernel
theorem dX5_combine_2 : decode cX5_combine 2 = .ok (.invokevirtual 92, 3) := by decide +kernel
theorem dX5_combine_5 : decode cX5_combine 5 = .ok (.ifCond .eq 20, 3) := by decide +kernel
theorem dX5_combine_8 : decode cX5_combine 8 = .ok (.aload_n 0, 1) := by decide +kernel
theorem dX5_combine_9 : decode cX5_combine 9 = .ok (.iload_n 3, 1) := by decide +kernel
theorem dX5_combine_10 : decode cX5_combine 10 = .ok (.invokevirtual 92, 3) := by decide +kernel
theorem dX5_combine_13 : decode cX5_combine 13 = .ok (.ifCond .eq 12, 3) := by decide +kernel
theorem dX5_combine_16 : decode cX5_combine 16 = .ok (.aload_n 0, 1) := by decide +kernel
theorem dX5_combine_17 : decode cX5_combine 17 = .ok (.iload 4, 2) := by decide +kernel
theorem dX5_combine_19 : decode cX5_combine 19 = .ok (.invokevirtual 92, 3) := by decide +kernel
theorem dX5_combine_22 : decode cX5_combine 22 = .ok (.ifCond .ne 5, 3) := by decide +kernel
theorem dX5_combine_25 : decode cX5_combine 25 = .ok (.iconst (-1), 1) := by decide +kernel
theorem dX5_combine_26 : decode cX5_combine 26 = .ok (.ireturn, 1) := by decide +kernel
theorem dX5_combine_27 : decode cX5_combine 27 = .ok (.iload_n 1, 1) := by decide +kernel
theorem dX5_combine_28 : decode cX5_combine 28 = .ok (.iconst 0, 1) := by decide +kernel
theorem dX5_combine_29 : decode cX5_combine 29 = .ok (.iconst 3, 1) := by decide +kernel
theorem dX5_combine_30 : decode cX5_combine 30 = .ok (.invokestatic 39, 3) := by decide +kernel
theorem dX5_combine_33 : decode cX5_combine 33 = .ok (.ifCond .ne 6, 3) := by decide +kernel
theorem dX5_combine_36 : decode cX5_combine 36 = .ok (.bipush (-2), 2) := by decide +kernel
theorem dX5_combine_38 : decode cX5_combine 38 = .ok (.ireturn, 1) := by decide +kernel
theorem dX5_combine_39 : decode cX5_combine 39 = .ok (.aload_n 0, 1) := by decide +kernel
theorem dX5_combine_40 : decode cX5_combine 40 = .ok (.iload_n 2, 1) := by decide +kernel
theorem dX5_combine_41 : decode cX5_combine 41 = .ok (.iconst 1, 1) := by decide +kernel
theorem dX5_combine_42 : decode cX5_combine 42 = .ok (.invokevirtual 43, 3) := by decide +kernel
theorem dX5_combine_45 : decode cX5_combine 45 = .ok (.iconst 1, 1) := by decide +kernel
theorem dX5_combine_46 : decode cX5_combine 46 = .ok (.if_icmp .ne 6, 3) := by decide +kernel
theorem dX5_combine_49 : decode cX5_combine 49 = .ok (.bipush (-4), 2) := by decide +kernel
theorem dX5_combine_51 : decode cX5_combine 51 = .ok (.ireturn, 1) := by decide +kernel
theorem dX5_combine_52 : decode cX5_combine 52 = .ok (.aload_n 0, 1) := by decide +kernel
theorem dX5_combine_53 : decode cX5_combine 53 = .ok (.aload_n 0, 1) := by decide +kernel
theorem dX5_combine_54 : decode cX5_combine 54 = .ok (.getfield 7, 3) := by decide +kernel
theorem dX5_combine_57 : decode cX5_combine 57 = .ok (.invokevirtual 88, 3) := by decide +kernel
theorem dX5_combine_60 : decode cX5_combine 60 = .ok (.aload_n 0, 1) := by decide +kernel
theorem dX5_combine_61 : decode cX5_combine 61 = .ok (.iload_n 1, 1) := by decide +kernel
theorem dX5_combine_62 : decode cX5_combine 62 = .ok (.iload_n 3, 1) := by decide +kernel
theorem dX5_combine_63 : decode cX5_combine 63 = .ok (.iload 4, 2) := by decide +kernel
theorem dX5_combine_65 : decode cX5_combine 65 = .ok (.invokevirtual 133, 3) := by decide +kernel
theorem dX5_combine_68 : decode cX5_combine 68 = .ok (.istore 5, 2) := by decide +kernel
theorem dX5_combine_70 : decode cX5_combine 70 = .ok (.iconst 0, 1) := by decide +kernel
theorem dX5_combine_71 : decode cX5_combine 71 = .ok (.istore 6, 2) := by decide +kernel
theorem dX5_combine_73 : decode cX5_combine 73 = .ok (.iload 6, 2) := by decide +kernel
theorem dX5_combine_75 : decode cX5_combine 75 = .ok (.bipush 64, 2) := by decide +kernel
theorem dX5_combine_77 : decode cX5_combine 77 = .ok (.if_icmp .ge 26, 3) := by decide +kernel
theorem dX5_combine_80 : decode cX5_combine 80 = .ok (.aload_n 0, 1) := by decide +kernel
theorem dX5_combine_81 : decode cX5_combine 81 = .ok (.iload_n 2, 1) := by decide +kernel
theorem dX5_combine_82 : decode cX5_combine 82 = .ok (.bipush 11, 2) := by decide +kernel
theorem dX5_combine_84 : decode cX5_combine 84 = .ok (.iload 6, 2) := by decide +kernel
theorem dX5_combine_86 : decode cX5_combine 86 = .ok (.iadd, 1) := by decide +kernel
theorem dX5_combine_87 : decode cX5_combine 87 = .ok (.aload_n 0, 1) := by decide +kernel
theorem dX5_combine_88 : decode cX5_combine 88 = .ok (.getfield 25, 3) := by decide +kernel
theorem dX5_combine_91 : decode cX5_combine 91 = .ok (.iload 6, 2) := by decide +kernel
theorem dX5_combine_93 : decode cX5_combine 93 = .ok (.iaload, 1) := by decide +kernel
theorem dX5_combine_94 : decode cX5_combine 94 = .ok (.invokevirtual 47, 3) := by decide +kernel
theorem dX5_combine_97 : decode cX5_combine 97 = .ok (.iinc 6 1, 3) := by decide +kernel
theorem dX5_combine_100 : decode cX5_combine 100 = .ok (.goto (-27), 3) := by decide +kernel
theorem dX5_combine_103 : decode cX5_combine 103 = .ok (.iconst 0, 1) := by decide +kernel
theorem dX5_combine_104 : decode cX5_combine 104 = .ok (.istore 6, 2) := by decide +kernel
theorem dX5_combine_106 : decode cX5_combine 106 = .ok (.iload 6, 2) := by decide +kernel
theorem dX5_combine_108 : decode cX5_combine 108 = .ok (.bipush 8, 2) := by decide +kernel
theorem dX5_combine_110 : decode cX5_combine 110 = .ok (.if_icmp .ge 41, 3) := by decide +kernel
theorem dX5_combine_113 : decode cX5_combine 113 = .ok (.aload_n 0, 1) := by decide +kernel
theorem dX5_combine_114 : decode cX5_combine 114 = .ok (.iload_n 2, 1) := by decide +kernel
theorem dX5_combine_115 : decode cX5_combine 115 = .ok (.iconst 3, 1) := by decide +kernel
theorem dX5_combine_116 : decode cX5_combine 116 = .ok (.iload 6, 2) := by decide +kernel
theorem dX5_combine_118 : decode cX5_combine 118 = .ok (.iadd, 1) := by decide +kernel
theorem dX5_combine_119 : decode cX5_combine 119 = .ok (.aload_n 0, 1) := by decide +kernel
theorem dX5_combine_120 : decode cX5_combine 120 = .ok (.iload_n 2, 1) := by decide +kernel
theorem dX5_combine_121 : decode cX5_combine 121 = .ok (.iload 6, 2) := by decide +kernel
theorem dX5_combine_123 : decode cX5_combine 123 = .ok (.invokevirtual 65, 3) := by decide +kernel
theorem dX5_combine_126 : decode cX5_combine 126 = .ok (.ifCond .ne 7, 3) := by decide +kernel
theorem dX5_combine_129 : decode cX5_combine 129 = .ok (.iconst 0, 1) := by decide +kernel
theorem dX5_combine_130 : decode cX5_combine 130 = .ok (.goto 12, 3) := by decide +kernel
theorem dX5_combine_133 : decode cX5_combine 133 = .ok (.aload_n 0, 1) := by decide +kernel
theorem dX5_combine_134 : decode cX5_combine 134 = .ok (.iload_n 2, 1) := by decide +kernel
theorem dX5_combine_135 : decode cX5_combine 135 = .ok (.iload 6, 2) := by decide +kernel
theorem dX5_combine_137 : decode cX5_combine 137 = .ok (.invokevirtual 74, 3) := by decide +kernel
theorem dX5_combine_140 : decode cX5_combine 140 = .ok (.iconst 1, 1) := by decide +kernel
theorem dX5_combine_141 : decode cX5_combine 141 = .ok (.iadd, 1) := by decide +kernel
theorem dX5_combine_142 : decode cX5_combine 142 = .ok (.invokevirtual 47, 3) := by decide +kernel
theorem dX5_combine_145 : decode cX5_combine 145 = .ok (.iinc 6 1, 3) := by decide +kernel
theorem dX5_combine_148 : decode cX5_combine 148 = .ok (.goto (-42), 3) := by decide +kernel
theorem dX5_combine_151 : decode cX5_combine 151 = .ok (.iload 5, 2) := by decide +kernel
theorem dX5_combine_153 : decode cX5_combine 153 = .ok (.ireturn, 1) := by decide +kernel
theorem dX5_type_0 : decode cX5_type 0 = .ok (.aload_n 0, 1) := by decide +kernel
theorem dX5_type_1 : decode cX5_type 1 = .ok (.getfield 136, 3) := by decide +kernel
theorem dX5_type_4 : decode cX5_type 4 = .ok (.bipush 60, 2) := by decide +kernel
theorem dX5_type_6 : decode cX5_type 6 = .ok (.if_icmp .ne 6, 3) := by decide +kernel
theorem dX5_type_9 : decode cX5_type 9 = .ok (.bipush (-3), 2) := by decide +kernel
theorem dX5_type_11 : decode cX5_type 11 = .ok (.ireturn, 1) := by decide +kernel
theorem dX5_type_12 : decode cX5_type 12 = .ok (.aload_n 0, 1) := by decide +kernel
theorem dX5_type_13 : decode cX5_type 13 = .ok (.getfield 22, 3) := by decide +kernel
theorem dX5_type_16 : decode cX5_type 16 = .ok (.aload_n 0, 1) := by decide +kernel
theorem dX5_type_17 : decode cX5_type 17 = .ok (.getfield 136, 3) := by decide +kernel
theorem dX5_type_20 : decode cX5_type 20 = .ok (.iload_n 1, 1) := by decide +kernel
theorem dX5_type_21 : decode cX5_type 21 = .ok (.iastore, 1) := by decide +kernel
theorem dX5_type_22 : decode cX5_type 22 = .ok (.aload_n 0, 1) := by decide +kernel
theorem dX5_type_23 : decode cX5_type 23 = .ok (.dup, 1) := by decide +kernel
theorem dX5_type_24 : decode cX5_type 24 = .ok (.getfield 136, 3) := by decide +kernel
theorem dX5_type_27 : decode cX5_type 27 = .ok (.iconst 1, 1) := by decide +kernel
theorem dX5_type_28 : decode cX5_type 28 = .ok (.iadd, 1) := by decide +kernel
theorem dX5_type_29 : decode cX5_type 29 = .ok (.putfield 136, 3) := by decide +kernel
theorem dX5_type_32 : decode cX5_type 32 = .ok (.aload_n 0, 1) := by decide +kernel
theorem dX5_type_33 : decode cX5_type 33 = .ok (.getfield 136, 3) := by decide +kernel
theorem dX5_type_36 : decode cX5_type 36 = .ok (.ireturn, 1) := by decide +kernel
theorem dX5_clearText_0 : decode cX5_clearText 0 = .ok (.aload_n 0, 1) := by decide +kernel
theorem dX5_clearText_1 : decode cX5_clearText 1 = .ok (.getfield 136, 3) := by decide +kernel
theorem dX5_clearText_4 : decode cX5_clearText 4 = .ok (.istore_n 1, 1) := by decide +kernel
theorem dX5_clearText_5 : decode cX5_clearText 5 = .ok (.aload_n 0, 1) := by decide +kernel
theorem dX5_clearText_6 : decode cX5_clearText 6 = .ok (.iconst 0, 1) := by decide +kernel
theorem dX5_clearText_7 : decode cX5_clearText 7 = .ok (.putfield 136, 3) := by decide +kernel
theorem dX5_clearText_10 : decode cX5_clearText 10 = .ok (.iload_n 1, 1) := by decide +kernel
theorem dX5_clearText_11 : decode cX5_clearText 11 = .ok (.ireturn, 1) := by decide +kernel
theorem dX5_signAt_0 : decode cX5_signAt 0 = .ok (.iload_n 1, 1) := by decide +kernel
theorem dX5_signAt_1 : decode cX5_signAt 1 = .ok (.aload_n 0, 1) := by decide +kernel
theorem dX5_signAt_2 : decode cX5_signAt 2 = .ok (.getfield 136, 3) := by decide +kernel
theorem dX5_signAt_5 : decode cX5_signAt 5 = .ok (.if_icmp .ge 12, 3) := by decide +kernel
theorem dX5_signAt_8 : decode cX5_signAt 8 = .ok (.aload_n 0, 1) := by decide +kernel
theorem dX5_signAt_9 : decode cX5_signAt 9 = .ok (.getfield 22, 3) := by decide +kernel
theorem dX5_signAt_12 : decode cX5_signAt 12 = .ok (.iload_n 1, 1) := by decide +kernel
theorem dX5_signAt_13 : decode cX5_signAt 13 = .ok (.iaload, 1) := by decide +kernel
theorem dX5_signAt_14 : decode cX5_signAt 14 = .ok (.goto 5, 3) := by decide +kernel
theorem dX5_signAt_17 : decode cX5_signAt 17 = .ok (.bipush (-5), 2) := by decide +kernel
theorem dX5_signAt_19 : decode cX5_signAt 19 = .ok (.ireturn, 1) := by decide +kernel
set_option maxRecDepth 20000 in
theorem ggX5_readsNumber_X5_signAt : GoodIn wsX5_readsNumber wsX5_signAt := goodIn_r _ [6, 7, 8, 12, 13, 14, 15, 16, 17, 18, 19, 20, 21, 22, 23, 24] (by decide +kernel) (by decide +kernel)
set_option maxRecDepth 20000 in
theorem gX5_readsNumber_X5_signAt : GoodIn wsX5_readsNumber (wsV RX5 142 RX5 yX5_signAt wsX5_signAt) := goodIn_app (goodIn_of _ (by decide +kernel)) ggX5_readsNumber_X5_signAt
set_option maxRecDepth 20000 in
theorem ggX5_readsNumber_X5_in : GoodIn wsX5_readsNumber wsX5_in := goodIn_r _ [11] (by decide +kernel) (by decide +kernel)
set_option maxRecDepth 20000 in
theorem gX5_readsNumber_X5_in : GoodIn wsX5_readsNumber (va_wsS RX5 39 yX5_in wsX5_in) := goodIn_app (goodIn_of _ (by decide +kernel)) ggX5_readsNumber_X5_in
theorem dX5_readsNumber_0 : decode cX5_readsNumber 0 = .ok (.aload_n 0, 1) := by decide +kernel
theorem dX5_readsNumber_1 : decode cX5_readsNumber 1 = .ok (.aload_n 0, 1) := by decide +kernel
theorem dX5_readsNumber_2 : decode cX5_readsNumber 2 = .ok (.getfield 139, 3) := by decide +kernel
theorem dX5_readsNumber_5 : decode cX5_readsNumber 5 = .ok (.invokevirtual 142, 3) := by decide +kernel
theorem dX5_readsNumber_8 : decode cX5_readsNumber 8 = .ok (.bipush 48, 2) := by decide +kernel
theorem dX5_readsNumber_10 : decode cX5_readsNumber 10 = .ok (.bipush 57, 2) := by decide +kernel
theorem dX5_readsNumber_12 : decode cX5_readsNumber 12 = .ok (.invokestatic 39, 3) := by decide +kernel
theorem dX5_readsNumber_15 : decode cX5_readsNumber 15 = .ok (.ifCond .ne 5, 3) := by decide +kernel
theorem dX5_readsNumber_18 : decode cX5_readsNumber 18 = .ok (.iconst (-1), 1) := by decide +kernel
theorem dX5_readsNumber_19 : decode cX5_readsNumber 19 = .ok (.ireturn, 1) := by decide +kernel
theorem dX5_readsNumber_20 : decode cX5_readsNumber 20 = .ok (.aload_n 0, 1) := by decide +kernel
theorem dX5_readsNumber_21 : decode cX5_readsNumber 21 = .ok (.aload_n 0, 1) := by decide +kernel
theorem dX5_readsNumber_22 : decode cX5_readsNumber 22 = .ok (.getfield 139, 3) := by decide +kernel
theorem dX5_readsNumber_25 : decode cX5_readsNumber 25 = .ok (.invokevirtual 142, 3) := by decide +kernel
theorem dX5_readsNumber_28 : decode cX5_readsNumber 28 = .ok (.bipush 48, 2) := by decide +kernel
theorem dX5_readsNumber_30 : decode cX5_readsNumber 30 = .ok (.isub, 1) := by decide +kernel
theorem dX5_readsNumber_31 : decode cX5_readsNumber 31 = .ok (.istore_n 1, 1) := by decide +kernel
theorem dX5_readsNumber_32 : decode cX5_readsNumber 32 = .ok (.aload_n 0, 1) := by decide +kernel
theorem dX5_readsNumber_33 : decode cX5_readsNumber 33 = .ok (.dup, 1) := by decide +kernel
theorem dX5_readsNumber_34 : decode cX5_readsNumber 34 = .ok (.getfield 139, 3) := by decide +kernel
theorem dX5_readsNumber_37 : decode cX5_readsNumber 37 = .ok (.iconst 1, 1) := by decide +kernel
theorem dX5_readsNumber_38 : decode cX5_readsNumber 38 = .ok (.iadd, 1) := by decide +kernel
theorem dX5_readsNumber_39 : decode cX5_readsNumber 39 = .ok (.putfield 139, 3) := by decide +kernel
theorem dX5_readsNumber_42 : decode cX5_readsNumber 42 = .ok (.iconst 0, 1) := by decide +kernel
theorem dX5_readsNumber_43 : decode cX5_readsNumber 43 = .ok (.istore_n 2, 1) := by decide +kernel
theorem dX5_readsNumber_44 : decode cX5_readsNumber 44 = .ok (.iload_n 2, 1) := by decide +kernel
theorem dX5_readsNumber_45 : decode cX5_readsNumber 45 = .ok (.iconst 3, 1) := by decide +kernel
theorem dX5_readsNumber_46 : decode cX5_readsNumber 46 = .ok (.if_icmp .ge 58, 3) := by decide +kernel
theorem dX5_readsNumber_49 : decode cX5_readsNumber 49 = .ok (.iload_n 1, 1) := by decide +kernel
theorem dX5_readsNumber_50 : decode cX5_readsNumber 50 = .ok (.ifCond .le 54, 3) := by decide +kernel
theorem dX5_readsNumber_53 : decode cX5_readsNumber 53 = .ok (.aload_n 0, 1) := by decide +kernel
theorem dX5_readsNumber_54 : decode cX5_readsNumber 54 = .ok (.aload_n 0, 1) := by decide +kernel
theorem dX5_readsNumber_55 : decode cX5_readsNumber 55 = .ok (.getfield 139, 3) := by decide +kernel
theorem dX5_readsNumber_58 : decode cX5_readsNumber 58 = .ok (.invokevirtual 142, 3) := by decide +kernel
theorem dX5_readsNumber_61 : decode cX5_readsNumber 61 = .ok (.bipush 48, 2) := by decide +kernel
theorem dX5_readsNumber_63 : decode cX5_readsNumber 63 = .ok (.bipush 57, 2) := by decide +kernel
theorem dX5_readsNumber_65 : decode cX5_readsNumber 65 = .ok (.invokestatic 39, 3) := by decide +kernel
theorem dX5_readsNumber_68 : decode cX5_readsNumber 68 = .ok (.ifCond .eq 36, 3) := by decide +kernel
theorem dX5_readsNumber_71 : decode cX5_readsNumber 71 = .ok (.bipush 10, 2) := by decide +kernel
theorem dX5_readsNumber_73 : decode cX5_readsNumber 73 = .ok (.iload_n 1, 1) := by decide +kernel
theorem dX5_readsNumber_74 : decode cX5_readsNumber 74 = .ok (.imul, 1) := by decide +kernel
theorem dX5_readsNumber_75 : decode cX5_readsNumber 75 = .ok (.aload_n 0, 1) := by decide +kernel
theorem dX5_readsNumber_76 : decode cX5_readsNumber 76 = .ok (.aload_n 0, 1) := by decide +kernel
theorem dX5_readsNumber_77 : decode cX5_readsNumber 77 = .ok (.getfield 139, 3) := by decide +kernel
theorem dX5_readsNumber_80 : decode cX5_readsNumber 80 = .ok (.invokevirtual 142, 3) := by decide +kernel
theorem dX5_readsNumber_83 : decode cX5_readsNumber 83 = .ok (.iadd, 1) := by decide +kernel
theorem dX5_readsNumber_84 : decode cX5_readsNumber 84 = .ok (.bipush 48, 2) := by decide +kernel
theorem dX5_readsNumber_86 : decode cX5_readsNumber 86 = .ok (.isub, 1) := by decide +kernel
theorem dX5_readsNumber_87 : decode cX5_readsNumber 87 = .ok (.istore_n 1, 1) := by decide +kernel
theorem dX5_readsNumber_88 : decode cX5_readsNumber 88 = .ok (.aload_n 0, 1) := by decide +kernel
theorem dX5_readsNumber_89 : decode cX5_readsNumber 89 = .ok (.dup, 1) := by decide +kernel
theorem dX5_readsNumber_90 : decode cX5_readsNumber 90 = .ok (.getfield 139, 3) := by decide +kernel
theorem dX5_readsNumber_93 : decode cX5_readsNumber 93 = .ok (.iconst 1, 1) := by decide +kernel
theorem dX5_readsNumber_94 : decode cX5_readsNumber 94 = .ok (.iadd, 1) := by decide +kernel
theorem dX5_readsNumber_95 : decode cX5_readsNumber 95 = .ok (.putfield 139, 3) := by decide +kernel
theorem dX5_readsNumber_98 : decode cX5_readsNumber 98 = .ok (.iinc 2 1, 3) := by decide +kernel
theorem dX5_readsNumber_101 : decode cX5_readsNumber 101 = .ok (.goto (-57), 3) := by decide +kernel
theorem dX5_readsNumber_104 : decode cX5_readsNumber 104 = .ok (.iload_n 1, 1) := by decide +kernel
theorem dX5_readsNumber_105 : decode cX5_readsNumber 105 = .ok (.ireturn, 1) := by decide +kernel
set_option maxRecDepth 20000 in
theorem ggX5_faultOf_X5_readsNumber : GoodIn wsX5_faultOf wsX5_readsNumber := goodIn_r _ [9, 1, 10, 11, 12, 8, 13, 4, 14, 15, 16, 17, 18, 19, 20, 21, 22, 23, 24, 25, 26, 27, 28, 29, 30] (by decide +kernel) (by decide +kernel)
set_option maxRecDepth 20000 in
theorem gX5_faultOf_X5_readsNumber : GoodIn wsX5_faultOf (wsV RX5 148 RX5 yX5_readsNumber wsX5_readsNumber) := goodIn_app (goodIn_of _ (by decide +kernel)) ggX5_faultOf_X5_readsNumber
set_option maxRecDepth 20000 in
theorem ggX5_faultOf_X5_signAt : GoodIn wsX5_faultOf wsX5_signAt := goodIn_r _ [13, 4, 14, 18, 19, 20, 21, 22, 23, 24, 25, 26, 27, 28, 29, 30] (by decide +kernel) (by decide +kernel)
set_option maxRecDepth 20000 in
theorem gX5_faultOf_X5_signAt : GoodIn wsX5_faultOf (wsV RX5 142 RX5 yX5_signAt wsX5_signAt) := goodIn_app (goodIn_of _ (by decide +kernel)) ggX5_faultOf_X5_signAt
theorem dX5_faultOf_0 : decode cX5_faultOf 0 = .ok (.aload_n 0, 1) := by decide +kernel
theorem dX5_faultOf_1 : decode cX5_faultOf 1 = .ok (.iconst 0, 1) := by decide +kernel
theorem dX5_faultOf_2 : decode cX5_faultOf 2 = .ok (.putfield 139, 3) := by decide +kernel
theorem dX5_faultOf_5 : decode cX5_faultOf 5 = .ok (.aload_n 0, 1) := by decide +kernel
theorem dX5_faultOf_6 : decode cX5_faultOf 6 = .ok (.iconst 0, 1) := by decide +kernel
theorem dX5_faultOf_7 : decode cX5_faultOf 7 = .ok (.putfield 145, 3) := by decide +kernel
theorem dX5_faultOf_10 : decode cX5_faultOf 10 = .ok (.iconst 1, 1) := by decide +kernel
theorem dX5_faultOf_11 : decode cX5_faultOf 11 = .ok (.istore_n 1, 1) := by decide +kernel
theorem dX5_faultOf_12 : decode cX5_faultOf 12 = .ok (.iload_n 1, 1) := by decide +kernel
theorem dX5_faultOf_13 : decode cX5_faultOf 13 = .ok (.ifCond .eq 152, 3) := by decide +kernel
theorem dX5_faultOf_16 : decode cX5_faultOf 16 = .ok (.aload_n 0, 1) := by decide +kernel
theorem dX5_faultOf_17 : decode cX5_faultOf 17 = .ok (.invokevirtual 148, 3) := by decide +kernel
theorem dX5_faultOf_20 : decode cX5_faultOf 20 = .ok (.istore_n 2, 1) := by decide +kernel
theorem dX5_faultOf_21 : decode cX5_faultOf 21 = .ok (.iload_n 2, 1) := by decide +kernel
theorem dX5_faultOf_22 : decode cX5_faultOf 22 = .ok (.ifCond .ge 8, 3) := by decide +kernel
theorem dX5_faultOf_25 : decode cX5_faultOf 25 = .ok (.aload_n 0, 1) := by decide +kernel
theorem dX5_faultOf_26 : decode cX5_faultOf 26 = .ok (.getfield 139, 3) := by decide +kernel
theorem dX5_faultOf_29 : decode cX5_faultOf 29 = .ok (.ireturn, 1) := by decide +kernel
theorem dX5_faultOf_30 : decode cX5_faultOf 30 = .ok (.iload_n 2, 1) := by decide +kernel
theorem dX5_faultOf_31 : decode cX5_faultOf 31 = .ok (.istore_n 3, 1) := by decide +kernel
theorem dX5_faultOf_32 : decode cX5_faultOf 32 = .ok (.aload_n 0, 1) := by decide +kernel
theorem dX5_faultOf_33 : decode cX5_faultOf 33 = .ok (.aload_n 0, 1) := by decide +kernel
theorem dX5_faultOf_34 : decode cX5_faultOf 34 = .ok (.getfield 139, 3) := by decide +kernel
theorem dX5_faultOf_37 : decode cX5_faultOf 37 = .ok (.invokevirtual 142, 3) := by decide +kernel
theorem dX5_faultOf_40 : decode cX5_faultOf 40 = .ok (.bipush 45, 2) := by decide +kernel
theorem dX5_faultOf_42 : decode cX5_faultOf 42 = .ok (.if_icmp .ne 18, 3) := by decide +kernel
theorem dX5_faultOf_45 : decode cX5_faultOf 45 = .ok (.aload_n 0, 1) := by decide +kernel
theorem dX5_faultOf_46 : decode cX5_faultOf 46 = .ok (.dup, 1) := by decide +kernel
theorem dX5_faultOf_47 : decode cX5_faultOf 47 = .ok (.getfield 139, 3) := by decide +kernel
theorem dX5_faultOf_50 : decode cX5_faultOf 50 = .ok (.iconst 1, 1) := by decide +kernel
theorem dX5_faultOf_51 : decode cX5_faultOf 51 = .ok (.iadd, 1) := by decide +kernel
theorem dX5_faultOf_52 : decode cX5_faultOf 52 = .ok (.putfield 139, 3) := by decide +kernel
theorem dX5_faultOf_55 : decode cX5_faultOf 55 = .ok (.aload_n 0, 1) := by decide +kernel
theorem dX5_faultOf_56 : decode cX5_faultOf 56 = .ok (.invokevirtual 148, 3) := by decide +kernel
theorem dX5_faultOf_59 : decode cX5_faultOf 59 = .ok (.istore_n 3, 1) := by decide +kernel
theorem dX5_faultOf_60 : decode cX5_faultOf 60 = .ok (.iload_n 3, 1) := by decide +kernel
theorem dX5_faultOf_61 : decode cX5_faultOf 61 = .ok (.ifCond .ge 8, 3) := by decide +kernel
theorem dX5_faultOf_64 : decode cX5_faultOf 64 = .ok (.aload_n 0, 1) := by decide +kernel
theorem dX5_faultOf_65 : decode cX5_faultOf 65 = .ok (.getfield 139, 3) := by decide +kernel
theorem dX5_faultOf_68 : decode cX5_faultOf 68 = .ok (.ireturn, 1) := by decide +kernel
theorem dX5_faultOf_69 : decode cX5_faultOf 69 = .ok (.aload_n 0, 1) := by decide +kernel
theorem dX5_faultOf_70 : decode cX5_faultOf 70 = .ok (.getfield 28, 3) := by decide +kernel
theorem dX5_faultOf_73 : decode cX5_faultOf 73 = .ok (.iconst 2, 1) := by decide +kernel
theorem dX5_faultOf_74 : decode cX5_faultOf 74 = .ok (.aload_n 0, 1) := by decide +kernel
theorem dX5_faultOf_75 : decode cX5_faultOf 75 = .ok (.getfield 145, 3) := by decide +kernel
theorem dX5_faultOf_78 : decode cX5_faultOf 78 = .ok (.imul, 1) := by decide +kernel
theorem dX5_faultOf_79 : decode cX5_faultOf 79 = .ok (.iload_n 2, 1) := by decide +kernel
theorem dX5_faultOf_80 : decode cX5_faultOf 80 = .ok (.iastore, 1) := by decide +kernel
theorem dX5_faultOf_81 : decode cX5_faultOf 81 = .ok (.aload_n 0, 1) := by decide +kernel
theorem dX5_faultOf_82 : decode cX5_faultOf 82 = .ok (.getfield 28, 3) := by decide +kernel
theorem dX5_faultOf_85 : decode cX5_faultOf 85 = .ok (.iconst 2, 1) := by decide +kernel
theorem dX5_faultOf_86 : decode cX5_faultOf 86 = .ok (.aload_n 0, 1) := by decide +kernel
theorem dX5_faultOf_87 : decode cX5_faultOf 87 = .ok (.getfield 145, 3) := by decide +kernel
theorem dX5_faultOf_90 : decode cX5_faultOf 90 = .ok (.imul, 1) := by decide +kernel
theorem dX5_faultOf_91 : decode cX5_faultOf 91 = .ok (.iconst 1, 1) := by decide +kernel
theorem dX5_faultOf_92 : decode cX5_faultOf 92 = .ok (.iadd, 1) := by decide +kernel
theorem dX5_faultOf_93 : decode cX5_faultOf 93 = .ok (.iload_n 3, 1) := by decide +kernel
theorem dX5_faultOf_94 : decode cX5_faultOf 94 = .ok (.iastore, 1) := by decide +kernel
theorem dX5_faultOf_95 : decode cX5_faultOf 95 = .ok (.aload_n 0, 1) := by decide +kernel
theorem dX5_faultOf_96 : decode cX5_faultOf 96 = .ok (.dup, 1) := by decide +kernel
theorem dX5_faultOf_97 : decode cX5_faultOf 97 = .ok (.getfield 145, 3) := by decide +kernel
theorem dX5_faultOf_100 : decode cX5_faultOf 100 = .ok (.iconst 1, 1) := by decide +kernel
theorem dX5_faultOf_101 : decode cX5_faultOf 101 = .ok (.iadd, 1) := by decide +kernel
theorem dX5_faultOf_102 : decode cX5_faultOf 102 = .ok (.putfield 145, 3) := by decide +kernel
theorem dX5_faultOf_105 : decode cX5_faultOf 105 = .ok (.aload_n 0, 1) := by decide +kernel
theorem dX5_faultOf_106 : decode cX5_faultOf 106 = .ok (.getfield 139, 3) := by decide +kernel
theorem dX5_faultOf_109 : decode cX5_faultOf 109 = .ok (.aload_n 0, 1) := by decide +kernel
theorem dX5_faultOf_110 : decode cX5_faultOf 110 = .ok (.getfield 136, 3) := by decide +kernel
theorem dX5_faultOf_113 : decode cX5_faultOf 113 = .ok (.if_icmp .ge 7, 3) := by decide +kernel
theorem dX5_faultOf_116 : decode cX5_faultOf 116 = .ok (.iconst 1, 1) := by decide +kernel
theorem dX5_faultOf_117 : decode cX5_faultOf 117 = .ok (.goto 4, 3) := by decide +kernel
theorem dX5_faultOf_120 : decode cX5_faultOf 120 = .ok (.iconst 0, 1) := by decide +kernel
theorem dX5_faultOf_121 : decode cX5_faultOf 121 = .ok (.istore_n 1, 1) := by decide +kernel
theorem dX5_faultOf_122 : decode cX5_faultOf 122 = .ok (.iload_n 1, 1) := by decide +kernel
theorem dX5_faultOf_123 : decode cX5_faultOf 123 = .ok (.ifCond .eq 21, 3) := by decide +kernel
theorem dX5_faultOf_126 : decode cX5_faultOf 126 = .ok (.aload_n 0, 1) := by decide +kernel
theorem dX5_faultOf_127 : decode cX5_faultOf 127 = .ok (.aload_n 0, 1) := by decide +kernel
theorem dX5_faultOf_128 : decode cX5_faultOf 128 = .ok (.getfield 139, 3) := by decide +kernel
theorem dX5_faultOf_131 : decode cX5_faultOf 131 = .ok (.invokevirtual 142, 3) := by decide +kernel
theorem dX5_faultOf_134 : decode cX5_faultOf 134 = .ok (.bipush 44, 2) := by decide +kernel
theorem dX5_faultOf_136 : decode cX5_faultOf 136 = .ok (.if_icmp .eq 8, 3) := by decide +kernel
theorem dX5_faultOf_139 : decode cX5_faultOf 139 = .ok (.aload_n 0, 1) := by decide +kernel
theorem dX5_faultOf_140 : decode cX5_faultOf 140 = .ok (.getfield 139, 3) := by decide +kernel
theorem dX5_faultOf_143 : decode cX5_faultOf 143 = .ok (.ireturn, 1) := by decide +kernel
theorem dX5_faultOf_144 : decode cX5_faultOf 144 = .ok (.aload_n 0, 1) := by decide +kernel
theorem dX5_faultOf_145 : decode cX5_faultOf 145 = .ok (.dup, 1) := by decide +kernel
theorem dX5_faultOf_146 : decode cX5_faultOf 146 = .ok (.getfield 139, 3) := by decide +kernel
theorem dX5_faultOf_149 : decode cX5_faultOf 149 = .ok (.iload_n 1, 1) := by decide +kernel
theorem dX5_faultOf_150 : decode cX5_faultOf 150 = .ok (.ifCond .eq 7, 3) := by decide +kernel
theorem dX5_faultOf_153 : decode cX5_faultOf 153 = .ok (.iconst 1, 1) := by decide +kernel
theorem dX5_faultOf_154 : decode cX5_faultOf 154 = .ok (.goto 4, 3) := by decide +kernel
theorem dX5_faultOf_157 : decode cX5_faultOf 157 = .ok (.iconst 0, 1) := by decide +kernel
theorem dX5_faultOf_158 : decode cX5_faultOf 158 = .ok (.iadd, 1) := by decide +kernel
theorem dX5_faultOf_159 : decode cX5_faultOf 159 = .ok (.putfield 139, 3) := by decide +kernel
theorem dX5_faultOf_162 : decode cX5_faultOf 162 = .ok (.goto (-150), 3) := by decide +kernel
theorem dX5_faultOf_165 : decode cX5_faultOf 165 = .ok (.bipush (-5), 2) := by decide +kernel
theorem dX5_faultOf_167 : decode cX5_faultOf 167 = .ok (.ireturn, 1) := by decide +kernel
set_option maxRecDepth 20000 in
theorem ggX5_readRanges_X5_isSet : GoodIn wsX5_readRanges wsX5_isSet := goodIn_r _ [9, 3, 10, 11, 8, 12, 101, 102, 103, 104, 105, 106, 107, 108, 109, 110, 111, 112, 113] (by decide +kernel) (by decide +kernel)
set_option maxRecDepth 20000 in
theorem gX5_readRanges_X5_isSet : GoodIn wsX5_readRanges (wsV RX5 92 RX5 yX5_isSet wsX5_isSet) := goodIn_app (goodIn_of _ (by decide +kernel)) ggX5_readRanges_X5_isSet
set_option maxRecDepth 20000 in
theorem ggX5_readRanges_X5_faultOf : GoodIn wsX5_readRanges wsX5_faultOf := goodIn_r _ [16, 17, 1, 2, 18, 19, 20, 21, 8, 22, 23, 24, 25, 26, 27, 10, 11, 12, 101, 102, 103, 104, 105, 106, 107, 108, 109, 110, 111, 112, 113] (by decide +kernel) (by decide +kernel)
set_option maxRecDepth 20000 in
theorem gX5_readRanges_X5_faultOf : GoodIn wsX5_readRanges (wsV RX5 152 RX5 yX5_faultOf wsX5_faultOf) := goodIn_app (goodIn_of _ (by decide +kernel)) ggX5_readRanges_X5_faultOf
set_option maxRecDepth 20000 in
theorem ggX5_readRanges_X5_isNumber : GoodIn wsX5_readRanges wsX5_isNumber := goodIn_r _ [30, 10, 11, 8, 12] (by decide +kernel) (by decide +kernel)
set_option maxRecDepth 20000 in
theorem gX5_readRanges_X5_isNumber : GoodIn wsX5_readRanges (va_wsS RX5 112 yX5_isNumber wsX5_isNumber) := goodIn_app (goodIn_of _ (by decide +kernel)) ggX5_readRanges_X5_isNumber
set_option maxRecDepth 20000 in
theorem ggX5_readRanges_X5_in : GoodIn wsX5_readRanges wsX5_in := goodIn_r _ [12] (by decide +kernel) (by decide +kernel)
set_option maxRecDepth 20000 in
theorem gX5_readRanges_X5_in : GoodIn wsX5_readRanges (va_wsS RX5 39 yX5_in wsX5_in) := goodIn_app (goodIn_of _ (by decide +kernel)) ggX5_readRanges_X5_in
set_option maxRecDepth 20000 in
theorem ggX5_readRanges_X5_copies : GoodIn wsX5_readRanges wsX5_copies := goodIn_r _ [33] (by decide +kernel) (by decide +kernel)
set_option maxRecDepth 20000 in
theorem gX5_readRanges_X5_copies : GoodIn wsX5_readRanges (va_wsS RX5 35 yX5_copies wsX5_copies) := goodIn_app (goodIn_of _ (by decide +kernel)) ggX5_readRanges_X5_copies
set_option maxRecDepth 20000 in
theorem ggX5_readRanges_X5_goesAll : GoodIn wsX5_readRanges wsX5_goesAll := goodIn_r _ [37, 38, 39, 40, 8, 41, 42, 43, 44, 45, 3, 46, 47, 48, 49, 50, 51, 52, 53, 54, 55, 56, 57, 58, 59, 60, 61, 62, 63, 64, 65, 66, 67, 68, 69, 70, 71, 72, 73, 74, 75, 76, 77, 78, 79, 80, 81, 82, 83, 84, 85, 86, 87, 88, 89, 90, 101, 102, 103, 104, 105, 106, 107, 108, 109, 110, 111, 112, 113] (by decide +kernel) (by decide +kernel)
set_option maxRecDepth 20000 in
theorem gX5_readRanges_X5_goesAll : GoodIn wsX5_readRanges (wsV RX5 119 RX5 yX5_goesAll wsX5_goesAll) := goodIn_app (goodIn_of _ (by decide +kernel)) ggX5_readRanges_X5_goesAll
set_option maxRecDepth 20000 in
theorem ggX5_readRanges_X5_ends : GoodIn wsX5_readRanges wsX5_ends := goodIn_r _ [94, 4, 3, 31, 32, 8, 33, 95, 96, 97, 98, 99, 100, 101, 102, 103, 104, 105, 106, 107, 108, 109, 110, 111, 112, 113] (by decide +kernel) (by decide +kernel)
set_option maxRecDepth 20000 in
theorem gX5_readRanges_X5_ends : GoodIn wsX5_readRanges (wsV RX5 123 RX5 yX5_ends wsX5_ends) := goodIn_app (goodIn_of _ (by decide +kernel)) ggX5_readRanges_X5_ends
theorem dX5_readRanges_0 : decode cX5_readRanges 0 = .ok (.aload_n 0, 1) := by decide +kernel
theorem dX5_readRanges_1 : decode cX5_readRanges 1 = .ok (.iload_n 1, 1) := by decide +kernel
theorem dX5_readRanges_2 : decode cX5_readRanges 2 = .ok (.invokevirtual 92, 3) := by decide +kernel
theorem dX5_readRanges_5 : decode cX5_readRanges 5 = .ok (.ifCond .ne 5, 3) := by decide +kernel
theorem dX5_readRanges_8 : decode cX5_readRanges 8 = .ok (.iconst (-1), 1) := by decide +kernel
theorem dX5_readRanges_9 : decode cX5_readRanges 9 = .ok (.ireturn, 1) := by decide +kernel
theorem dX5_readRanges_10 : decode cX5_readRanges 10 = .ok (.aload_n 0, 1) := by decide +kernel
theorem dX5_readRanges_11 : decode cX5_readRanges 11 = .ok (.invokevirtual 152, 3) := by decide +kernel
theorem dX5_readRanges_14 : decode cX5_readRanges 14 = .ok (.istore_n 2, 1) := by decide +kernel
theorem dX5_readRanges_15 : decode cX5_readRanges 15 = .ok (.iload_n 2, 1) := by decide +kernel
theorem dX5_readRanges_16 : decode cX5_readRanges 16 = .ok (.bipush (-5), 2) := by decide +kernel
theorem dX5_readRanges_18 : decode cX5_readRanges 18 = .ok (.if_icmp .eq 8, 3) := by decide +kernel
theorem dX5_readRanges_21 : decode cX5_readRanges 21 = .ok (.bipush (-100), 2) := by decide +kernel
theorem dX5_readRanges_23 : decode cX5_readRanges 23 = .ok (.iload_n 2, 1) := by decide +kernel
theorem dX5_readRanges_24 : decode cX5_readRanges 24 = .ok (.isub, 1) := by decide +kernel
theorem dX5_readRanges_25 : decode cX5_readRanges 25 = .ok (.ireturn, 1) := by decide +kernel
theorem dX5_readRanges_26 : decode cX5_readRanges 26 = .ok (.iconst 0, 1) := by decide +kernel
theorem dX5_readRanges_27 : decode cX5_readRanges 27 = .ok (.istore_n 3, 1) := by decide +kernel
theorem dX5_readRanges_28 : decode cX5_readRanges 28 = .ok (.iload_n 3, 1) := by decide +kernel
theorem dX5_readRanges_29 : decode cX5_readRanges 29 = .ok (.aload_n 0, 1) := by decide +kernel
theorem dX5_readRanges_30 : decode cX5_readRanges 30 = .ok (.getfield 145, 3) := by decide +kernel
theorem dX5_readRanges_33 : decode cX5_readRanges 33 = .ok (.if_icmp .ge 53, 3) := by decide +kernel
theorem dX5_readRanges_36 : decode cX5_readRanges 36 = .ok (.aload_n 0, 1) := by decide +kernel
theorem dX5_readRanges_37 : decode cX5_readRanges 37 = .ok (.getfield 28, 3) := by decide +kernel
theorem dX5_readRanges_40 : decode cX5_readRanges 40 = .ok (.iconst 2, 1) := by decide +kernel
theorem dX5_readRanges_41 : decode cX5_readRanges 41 = .ok (.iload_n 3, 1) := by decide +kernel
theorem dX5_readRanges_42 : decode cX5_readRanges 42 = .ok (.imul, 1) := by decide +kernel
theorem dX5_readRanges_43 : decode cX5_readRanges 43 = .ok (.iaload, 1) := by decide +kernel
theorem dX5_readRanges_44 : decode cX5_readRanges 44 = .ok (.invokestatic 112, 3) := by decide +kernel
theorem dX5_readRanges_47 : decode cX5_readRanges 47 = .ok (.ifCond .eq 30, 3) := by decide +kernel
theorem dX5_readRanges_50 : decode cX5_readRanges 50 = .ok (.aload_n 0, 1) := by decide +kernel
theorem dX5_readRanges_51 : decode cX5_readRanges 51 = .ok (.getfield 28, 3) := by decide +kernel
theorem dX5_readRanges_54 : decode cX5_readRanges 54 = .ok (.iconst 2, 1) := by decide +kernel
theorem dX5_readRanges_55 : decode cX5_readRanges 55 = .ok (.iload_n 3, 1) := by decide +kernel
theorem dX5_readRanges_56 : decode cX5_readRanges 56 = .ok (.imul, 1) := by decide +kernel
theorem dX5_readRanges_57 : decode cX5_readRanges 57 = .ok (.iconst 1, 1) := by decide +kernel
theorem dX5_readRanges_58 : decode cX5_readRanges 58 = .ok (.iadd, 1) := by decide +kernel
theorem dX5_readRanges_59 : decode cX5_readRanges 59 = .ok (.iaload, 1) := by decide +kernel
theorem dX5_readRanges_60 : decode cX5_readRanges 60 = .ok (.aload_n 0, 1) := by decide +kernel
theorem dX5_readRanges_61 : decode cX5_readRanges 61 = .ok (.getfield 28, 3) := by decide +kernel
theorem dX5_readRanges_64 : decode cX5_readRanges 64 = .ok (.iconst 2, 1) := by decide +kernel
theorem dX5_readRanges_65 : decode cX5_readRanges 65 = .ok (.iload_n 3, 1) := by decide +kernel
theorem dX5_readRanges_66 : decode cX5_readRanges 66 = .ok (.imul, 1) := by decide +kernel
theorem dX5_readRanges_67 : decode cX5_readRanges 67 = .ok (.iaload, 1) := by decide +kernel
theorem dX5_readRanges_68 : decode cX5_readRanges 68 = .ok (.sipush 2047, 3) := by decide +kernel
theorem dX5_readRanges_71 : decode cX5_readRanges 71 = .ok (.invokestatic 39, 3) := by decide +kernel
theorem dX5_readRanges_74 : decode cX5_readRanges 74 = .ok (.ifCond .ne 6, 3) := by decide +kernel
theorem dX5_readRanges_77 : decode cX5_readRanges 77 = .ok (.bipush (-2), 2) := by decide +kernel
theorem dX5_readRanges_79 : decode cX5_readRanges 79 = .ok (.ireturn, 1) := by decide +kernel
theorem dX5_readRanges_80 : decode cX5_readRanges 80 = .ok (.iinc 3 1, 3) := by decide +kernel
theorem dX5_readRanges_83 : decode cX5_readRanges 83 = .ok (.goto (-55), 3) := by decide +kernel
theorem dX5_readRanges_86 : decode cX5_readRanges 86 = .ok (.aload_n 0, 1) := by decide +kernel
theorem dX5_readRanges_87 : decode cX5_readRanges 87 = .ok (.getfield 7, 3) := by decide +kernel
theorem dX5_readRanges_90 : decode cX5_readRanges 90 = .ok (.iconst 0, 1) := by decide +kernel
theorem dX5_readRanges_91 : decode cX5_readRanges 91 = .ok (.aload_n 0, 1) := by decide +kernel
theorem dX5_readRanges_92 : decode cX5_readRanges 92 = .ok (.getfield 19, 3) := by decide +kernel
theorem dX5_readRanges_95 : decode cX5_readRanges 95 = .ok (.iconst 0, 1) := by decide +kernel
theorem dX5_readRanges_96 : decode cX5_readRanges 96 = .ok (.invokestatic 35, 3) := by decide +kernel
theorem dX5_readRanges_99 : decode cX5_readRanges 99 = .ok (.iconst 0, 1) := by decide +kernel
theorem dX5_readRanges_100 : decode cX5_readRanges 100 = .ok (.istore_n 3, 1) := by decide +kernel
theorem dX5_readRanges_101 : decode cX5_readRanges 101 = .ok (.iconst 0, 1) := by decide +kernel
theorem dX5_readRanges_102 : decode cX5_readRanges 102 = .ok (.istore 4, 2) := by decide +kernel
theorem dX5_readRanges_104 : decode cX5_readRanges 104 = .ok (.iload 4, 2) := by decide +kernel
theorem dX5_readRanges_106 : decode cX5_readRanges 106 = .ok (.aload_n 0, 1) := by decide +kernel
theorem dX5_readRanges_107 : decode cX5_readRanges 107 = .ok (.getfield 145, 3) := by decide +kernel
theorem dX5_readRanges_110 : decode cX5_readRanges 110 = .ok (.if_icmp .ge 55, 3) := by decide +kernel
theorem dX5_readRanges_113 : decode cX5_readRanges 113 = .ok (.iload_n 3, 1) := by decide +kernel
theorem dX5_readRanges_114 : decode cX5_readRanges 114 = .ok (.ifCond .lt 51, 3) := by decide +kernel
theorem dX5_readRanges_117 : decode cX5_readRanges 117 = .ok (.aload_n 0, 1) := by decide +kernel
theorem dX5_readRanges_118 : decode cX5_readRanges 118 = .ok (.iload_n 1, 1) := by decide +kernel
theorem dX5_readRanges_119 : decode cX5_readRanges 119 = .ok (.aload_n 0, 1) := by decide +kernel
theorem dX5_readRanges_120 : decode cX5_readRanges 120 = .ok (.getfield 28, 3) := by decide +kernel
theorem dX5_readRanges_123 : decode cX5_readRanges 123 = .ok (.iconst 2, 1) := by decide +kernel
theorem dX5_readRanges_124 : decode cX5_readRanges 124 = .ok (.iload 4, 2) := by decide +kernel
theorem dX5_readRanges_126 : decode cX5_readRanges 126 = .ok (.imul, 1) := by decide +kernel
theorem dX5_readRanges_127 : decode cX5_readRanges 127 = .ok (.iaload, 1) := by decide +kernel
theorem dX5_readRanges_128 : decode cX5_readRanges 128 = .ok (.aload_n 0, 1) := by decide +kernel
theorem dX5_readRanges_129 : decode cX5_readRanges 129 = .ok (.getfield 28, 3) := by decide +kernel
theorem dX5_readRanges_132 : decode cX5_readRanges 132 = .ok (.iconst 2, 1) := by decide +kernel
theorem dX5_readRanges_133 : decode cX5_readRanges 133 = .ok (.iload 4, 2) := by decide +kernel
theorem dX5_readRanges_135 : decode cX5_readRanges 135 = .ok (.imul, 1) := by decide +kernel
theorem dX5_readRanges_136 : decode cX5_readRanges 136 = .ok (.iconst 1, 1) := by decide +kernel
theorem dX5_readRanges_137 : decode cX5_readRanges 137 = .ok (.iadd, 1) := by decide +kernel
theorem dX5_readRanges_138 : decode cX5_readRanges 138 = .ok (.iaload, 1) := by decide +kernel
theorem dX5_readRanges_139 : decode cX5_readRanges 139 = .ok (.iconst 1, 1) := by decide +kernel
theorem dX5_readRanges_140 : decode cX5_readRanges 140 = .ok (.invokevirtual 119, 3) := by decide +kernel
theorem dX5_readRanges_143 : decode cX5_readRanges 143 = .ok (.istore 5, 2) := by decide +kernel
theorem dX5_readRanges_145 : decode cX5_readRanges 145 = .ok (.iload 5, 2) := by decide +kernel
theorem dX5_readRanges_147 : decode cX5_readRanges 147 = .ok (.ifCond .ge 7, 3) := by decide +kernel
theorem dX5_readRanges_150 : decode cX5_readRanges 150 = .ok (.iconst (-1), 1) := by decide +kernel
theorem dX5_readRanges_151 : decode cX5_readRanges 151 = .ok (.goto 7, 3) := by decide +kernel
theorem dX5_readRanges_154 : decode cX5_readRanges 154 = .ok (.iload_n 3, 1) := by decide +kernel
theorem dX5_readRanges_155 : decode cX5_readRanges 155 = .ok (.iload 5, 2) := by decide +kernel
theorem dX5_readRanges_157 : decode cX5_readRanges 157 = .ok (.iadd, 1) := by decide +kernel
theorem dX5_readRanges_158 : decode cX5_readRanges 158 = .ok (.istore_n 3, 1) := by decide +kernel
theorem dX5_readRanges_159 : decode cX5_readRanges 159 = .ok (.iinc 4 1, 3) := by decide +kernel
theorem dX5_readRanges_162 : decode cX5_readRanges 162 = .ok (.goto (-58), 3) := by decide +kernel
theorem dX5_readRanges_165 : decode cX5_readRanges 165 = .ok (.aload_n 0, 1) := by decide +kernel
theorem dX5_readRanges_166 : decode cX5_readRanges 166 = .ok (.iload_n 3, 1) := by decide +kernel
theorem dX5_readRanges_167 : decode cX5_readRanges 167 = .ok (.invokevirtual 123, 3) := by decide +kernel
theorem dX5_readRanges_170 : decode cX5_readRanges 170 = .ok (.ireturn, 1) := by decide +kernel
set_option maxRecDepth 20000 in
theorem ggX5_undo_X5_copies : GoodIn wsX5_undo wsX5_copies := goodIn_r _ [7] (by decide +kernel) (by decide +kernel)
set_option maxRecDepth 20000 in
theorem gX5_undo_X5_copies : GoodIn wsX5_undo (va_wsS RX5 35 yX5_copies wsX5_copies) := goodIn_app (goodIn_of _ (by decide +kernel)) ggX5_undo_X5_copies
theorem dX5_undo_0 : decode cX5_undo 0 = .ok (.aload_n 0, 1) := by decide +kernel
theorem dX5_undo_1 : decode cX5_undo 1 = .ok (.getfield 31, 3) := by decide +kernel
theorem dX5_undo_4 : decode cX5_undo 4 = .ok (.ifCond .ne 6, 3) := by decide +kernel
theorem dX5_undo_7 : decode cX5_undo 7 = .ok (.bipush (-5), 2) := by decide +kernel
theorem dX5_undo_9 : decode cX5_undo 9 = .ok (.ireturn, 1) := by decide +kernel
theorem dX5_undo_10 : decode cX5_undo 10 = .ok (.aload_n 0, 1) := by decide +kernel
theorem dX5_undo_11 : decode cX5_undo 11 = .ok (.dup, 1) := by decide +kernel
theorem dX5_undo_12 : decode cX5_undo 12 = .ok (.getfield 31, 3) := by decide +kernel
theorem dX5_undo_15 : decode cX5_undo 15 = .ok (.iconst 1, 1) := by decide +kernel
theorem dX5_undo_16 : decode cX5_undo 16 = .ok (.isub, 1) := by decide +kernel
theorem dX5_undo_17 : decode cX5_undo 17 = .ok (.putfield 31, 3) := by decide +kernel
theorem dX5_undo_20 : decode cX5_undo 20 = .ok (.aload_n 0, 1) := by decide +kernel
theorem dX5_undo_21 : decode cX5_undo 21 = .ok (.getfield 13, 3) := by decide +kernel
theorem dX5_undo_24 : decode cX5_undo 24 = .ok (.aload_n 0, 1) := by decide +kernel
theorem dX5_undo_25 : decode cX5_undo 25 = .ok (.getfield 31, 3) := by decide +kernel
theorem dX5_undo_28 : decode cX5_undo 28 = .ok (.sipush 451, 3) := by decide +kernel
theorem dX5_undo_31 : decode cX5_undo 31 = .ok (.imul, 1) := by decide +kernel
theorem dX5_undo_32 : decode cX5_undo 32 = .ok (.aload_n 0, 1) := by decide +kernel
theorem dX5_undo_33 : decode cX5_undo 33 = .ok (.getfield 7, 3) := by decide +kernel
theorem dX5_undo_36 : decode cX5_undo 36 = .ok (.iconst 0, 1) := by decide +kernel
theorem dX5_undo_37 : decode cX5_undo 37 = .ok (.invokestatic 35, 3) := by decide +kernel
theorem dX5_undo_40 : decode cX5_undo 40 = .ok (.aload_n 0, 1) := by decide +kernel
theorem dX5_undo_41 : decode cX5_undo 41 = .ok (.getfield 31, 3) := by decide +kernel
theorem dX5_undo_44 : decode cX5_undo 44 = .ok (.ireturn, 1) := by decide +kernel
set_option maxRecDepth 20000 in
theorem ggX5_keep_X5_copies : GoodIn wsX5_keep wsX5_copies := goodIn_r _ [7] (by decide +kernel) (by decide +kernel)
set_option maxRecDepth 20000 in
theorem gX5_keep_X5_copies : GoodIn wsX5_keep (va_wsS RX5 35 yX5_copies wsX5_copies) := goodIn_app (goodIn_of _ (by decide +kernel)) ggX5_keep_X5_copies
theorem dX5_keep_0 : decode cX5_keep 0 = .ok (.aload_n 0, 1) := by decide +kernel
theorem dX5_keep_1 : decode cX5_keep 1 = .ok (.getfield 7, 3) := by decide +kernel
theorem dX5_keep_4 : decode cX5_keep 4 = .ok (.iconst 0, 1) := by decide +kernel
theorem dX5_keep_5 : decode cX5_keep 5 = .ok (.aload_n 0, 1) := by decide +kernel
theorem dX5_keep_6 : decode cX5_keep 6 = .ok (.getfield 16, 3) := by decide +kernel
theorem dX5_keep_9 : decode cX5_keep 9 = .ok (.iconst 0, 1) := by decide +kernel
theorem dX5_keep_10 : decode cX5_keep 10 = .ok (.invokestatic 35, 3) := by decide +kernel
theorem dX5_keep_13 : decode cX5_keep 13 = .ok (.aload_n 0, 1) := by decide +kernel
theorem dX5_keep_14 : decode cX5_keep 14 = .ok (.iconst 1, 1) := by decide +kernel
theorem dX5_keep_15 : decode cX5_keep 15 = .ok (.putfield 155, 3) := by decide +kernel
theorem dX5_keep_18 : decode cX5_keep 18 = .ok (.aload_n 0, 1) := by decide +kernel
theorem dX5_keep_19 : decode cX5_keep 19 = .ok (.getfield 7, 3) := by decide +kernel
theorem dX5_keep_22 : decode cX5_keep 22 = .ok (.iconst 0, 1) := by decide +kernel
theorem dX5_keep_23 : decode cX5_keep 23 = .ok (.iaload, 1) := by decide +kernel
theorem dX5_keep_24 : decode cX5_keep 24 = .ok (.ireturn, 1) := by decide +kernel
set_option maxRecDepth 20000 in
theorem ggX5_restore_X5_records : GoodIn wsX5_restore wsX5_records := goodIn_r _ [8, 9, 10, 11, 12, 7, 13, 14, 15, 16, 17, 18, 19, 20, 21, 22, 23, 24, 25, 26] (by decide +kernel) (by decide +kernel)
set_option maxRecDepth 20000 in
theorem gX5_restore_X5_records : GoodIn wsX5_restore (wsV RX5 88 RX5 yX5_records wsX5_records) := goodIn_app (goodIn_of _ (by decide +kernel)) ggX5_restore_X5_records
set_option maxRecDepth 20000 in
theorem ggX5_restore_X5_copies : GoodIn wsX5_restore wsX5_copies := goodIn_r _ [13] (by decide +kernel) (by decide +kernel)
set_option maxRecDepth 20000 in
theorem gX5_restore_X5_copies : GoodIn wsX5_restore (va_wsS RX5 35 yX5_copies wsX5_copies) := goodIn_app (goodIn_of _ (by decide +kernel)) ggX5_restore_X5_copies
theorem dX5_restore_0 : decode cX5_restore 0 = .ok (.aload_n 0, 1) := by decide +kernel
theorem dX5_restore_1 : decode cX5_restore 1 = .ok (.getfield 155, 3) := by decide +kernel
theorem dX5_restore_4 : decode cX5_restore 4 = .ok (.ifCond .ne 6, 3) := by decide +kernel
theorem dX5_restore_7 : decode cX5_restore 7 = .ok (.bipush (-5), 2) := by decide +kernel
theorem dX5_restore_9 : decode cX5_restore 9 = .ok (.ireturn, 1) := by decide +kernel
theorem dX5_restore_10 : decode cX5_restore 10 = .ok (.aload_n 0, 1) := by decide +kernel
theorem dX5_restore_11 : decode cX5_restore 11 = .ok (.aload_n 0, 1) := by decide +kernel
theorem dX5_restore_12 : decode cX5_restore 12 = .ok (.getfield 7, 3) := by decide +kernel
theorem dX5_restore_15 : decode cX5_restore 15 = .ok (.invokevirtual 88, 3) := by decide +kernel
theorem dX5_restore_18 : decode cX5_restore 18 = .ok (.aload_n 0, 1) := by decide +kernel
theorem dX5_restore_19 : decode cX5_restore 19 = .ok (.getfield 16, 3) := by decide +kernel
theorem dX5_restore_22 : decode cX5_restore 22 = .ok (.iconst 0, 1) := by decide +kernel
theorem dX5_restore_23 : decode cX5_restore 23 = .ok (.aload_n 0, 1) := by decide +kernel
theorem dX5_restore_24 : decode cX5_restore 24 = .ok (.getfield 7, 3) := by decide +kernel
theorem dX5_restore_27 : decode cX5_restore 27 = .ok (.iconst 0, 1) := by decide +kernel
theorem dX5_restore_28 : decode cX5_restore 28 = .ok (.invokestatic 35, 3) := by decide +kernel
theorem dX5_restore_31 : decode cX5_restore 31 = .ok (.aload_n 0, 1) := by decide +kernel
theorem dX5_restore_32 : decode cX5_restore 32 = .ok (.getfield 7, 3) := by decide +kernel
theorem dX5_restore_35 : decode cX5_restore 35 = .ok (.iconst 0, 1) := by decide +kernel
theorem dX5_restore_36 : decode cX5_restore 36 = .ok (.iaload, 1) := by decide +kernel
theorem dX5_restore_37 : decode cX5_restore 37 = .ok (.ireturn, 1) := by decide +kernel
set_option maxRecDepth 20000 in
theorem ggX5_has_X5_isSet : GoodIn wsX5_has wsX5_isSet := goodIn_r _ [5, 6, 7, 8, 4, 9, 21, 22, 23, 24, 25, 26, 27, 28, 29, 30, 31, 32, 33] (by decide +kernel) (by decide +kernel)
set_option maxRecDepth 20000 in
theorem gX5_has_X5_isSet : GoodIn wsX5_has (wsV RX5 92 RX5 yX5_isSet wsX5_isSet) := goodIn_app (goodIn_of _ (by decide +kernel)) ggX5_has_X5_isSet
set_option maxRecDepth 20000 in
theorem ggX5_has_X5_isNumber : GoodIn wsX5_has wsX5_isNumber := goodIn_r _ [12, 7, 8, 4, 9] (by decide +kernel) (by decide +kernel)
set_option maxRecDepth 20000 in
theorem gX5_has_X5_isNumber : GoodIn wsX5_has (va_wsS RX5 112 yX5_isNumber wsX5_isNumber) := goodIn_app (goodIn_of _ (by decide +kernel)) ggX5_has_X5_isNumber
set_option maxRecDepth 20000 in
theorem ggX5_has_X5_isIn : GoodIn wsX5_has wsX5_isIn := goodIn_r _ [16, 17, 18, 19, 4, 20, 6, 21, 22, 23, 24, 25, 26, 27, 28, 29, 30, 31, 32, 33] (by decide +kernel) (by decide +kernel)
set_option maxRecDepth 20000 in
theorem gX5_has_X5_isIn : GoodIn wsX5_has (wsV RX5 51 RX5 yX5_isIn wsX5_isIn) := goodIn_app (goodIn_of _ (by decide +kernel)) ggX5_has_X5_isIn
theorem dX5_has_0 : decode cX5_has 0 = .ok (.aload_n 0, 1) := by decide +kernel
theorem dX5_has_1 : decode cX5_has 1 = .ok (.iload_n 1, 1) := by decide +kernel
theorem dX5_has_2 : decode cX5_has 2 = .ok (.invokevirtual 92, 3) := by decide +kernel
theorem dX5_has_5 : decode cX5_has 5 = .ok (.ifCond .ne 7, 3) := by decide +kernel
theorem dX5_has_8 : decode cX5_has 8 = .ok (.iconst (-1), 1) := by decide +kernel
theorem dX5_has_9 : decode cX5_has 9 = .ok (.goto 29, 3) := by decide +kernel
theorem dX5_has_12 : decode cX5_has 12 = .ok (.iload_n 2, 1) := by decide +kernel
theorem dX5_has_13 : decode cX5_has 13 = .ok (.invokestatic 112, 3) := by decide +kernel
theorem dX5_has_16 : decode cX5_has 16 = .ok (.ifCond .ne 8, 3) := by decide +kernel
theorem dX5_has_19 : decode cX5_has 19 = .ok (.bipush (-2), 2) := by decide +kernel
theorem dX5_has_21 : decode cX5_has 21 = .ok (.goto 17, 3) := by decide +kernel
theorem dX5_has_24 : decode cX5_has 24 = .ok (.aload_n 0, 1) := by decide +kernel
theorem dX5_has_25 : decode cX5_has 25 = .ok (.iload_n 1, 1) := by decide +kernel
theorem dX5_has_26 : decode cX5_has 26 = .ok (.iload_n 2, 1) := by decide +kernel
theorem dX5_has_27 : decode cX5_has 27 = .ok (.invokevirtual 51, 3) := by decide +kernel
theorem dX5_has_30 : decode cX5_has 30 = .ok (.ifCond .eq 7, 3) := by decide +kernel
theorem dX5_has_33 : decode cX5_has 33 = .ok (.iconst 1, 1) := by decide +kernel
theorem dX5_has_34 : decode cX5_has 34 = .ok (.goto 4, 3) := by decide +kernel
theorem dX5_has_37 : decode cX5_has 37 = .ok (.iconst 0, 1) := by decide +kernel
theorem dX5_has_38 : decode cX5_has 38 = .ok (.ireturn, 1) := by decide +kernel
set_option maxRecDepth 20000 in
theorem ggX5_rankOf_X5_isIn : GoodIn wsX5_rankOf wsX5_isIn := goodIn_r _ [5, 6, 7, 8, 4, 9, 10, 11, 12, 13, 14, 15, 16, 17, 18, 19, 20, 21, 22, 23] (by decide +kernel) (by decide +kernel)
set_option maxRecDepth 20000 in
theorem gX5_rankOf_X5_isIn : GoodIn wsX5_rankOf (wsV RX5 51 RX5 yX5_isIn wsX5_isIn) := goodIn_app (goodIn_of _ (by decide +kernel)) ggX5_rankOf_X5_isIn
theorem dX5_rankOf_0 : decode cX5_rankOf 0 = .ok (.iconst 0, 1) := by decide +kernel
theorem dX5_rankOf_1 : decode cX5_rankOf 1 = .ok (.istore_n 3, 1) := by decide +kernel
theorem dX5_rankOf_2 : decode cX5_rankOf 2 = .ok (.iconst 0, 1) := by decide +kernel
theorem dX5_rankOf_3 : decode cX5_rankOf 3 = .ok (.istore 4, 2) := by decide +kernel
theorem dX5_rankOf_5 : decode cX5_rankOf 5 = .ok (.iload 4, 2) := by decide +kernel
theorem dX5_rankOf_7 : decode cX5_rankOf 7 = .ok (.iload_n 2, 1) := by decide +kernel
theorem dX5_rankOf_8 : decode cX5_rankOf 8 = .ok (.if_icmp .ge 27, 3) := by decide +kernel
theorem dX5_rankOf_11 : decode cX5_rankOf 11 = .ok (.iload_n 3, 1) := by decide +kernel
theorem dX5_rankOf_12 : decode cX5_rankOf 12 = .ok (.aload_n 0, 1) := by decide +kernel
theorem dX5_rankOf_13 : decode cX5_rankOf 13 = .ok (.iload_n 1, 1) := by decide +kernel
theorem dX5_rankOf_14 : decode cX5_rankOf 14 = .ok (.iload 4, 2) := by decide +kernel
theorem dX5_rankOf_16 : decode cX5_rankOf 16 = .ok (.invokevirtual 51, 3) := by decide +kernel
theorem dX5_rankOf_19 : decode cX5_rankOf 19 = .ok (.ifCond .eq 7, 3) := by decide +kernel
theorem dX5_rankOf_22 : decode cX5_rankOf 22 = .ok (.iconst 1, 1) := by decide +kernel
theorem dX5_rankOf_23 : decode cX5_rankOf 23 = .ok (.goto 4, 3) := by decide +kernel
theorem dX5_rankOf_26 : decode cX5_rankOf 26 = .ok (.iconst 0, 1) := by decide +kernel
theorem dX5_rankOf_27 : decode cX5_rankOf 27 = .ok (.iadd, 1) := by decide +kernel
theorem dX5_rankOf_28 : decode cX5_rankOf 28 = .ok (.istore_n 3, 1) := by decide +kernel
theorem dX5_rankOf_29 : decode cX5_rankOf 29 = .ok (.iinc 4 1, 3) := by decide +kernel
theorem dX5_rankOf_32 : decode cX5_rankOf 32 = .ok (.goto (-27), 3) := by decide +kernel
theorem dX5_rankOf_35 : decode cX5_rankOf 35 = .ok (.iload_n 3, 1) := by decide +kernel
theorem dX5_rankOf_36 : decode cX5_rankOf 36 = .ok (.ireturn, 1) := by decide +kernel
set_option maxRecDepth 20000 in
theorem ggX5_firstFrom_X5_isNumber : GoodIn wsX5_firstFrom wsX5_isNumber := goodIn_r _ [4, 5, 6, 3, 7] (by decide +kernel) (by decide +kernel)
set_option maxRecDepth 20000 in
theorem gX5_firstFrom_X5_isNumber : GoodIn wsX5_firstFrom (va_wsS RX5 112 yX5_isNumber wsX5_isNumber) := goodIn_app (goodIn_of _ (by decide +kernel)) ggX5_firstFrom_X5_isNumber
set_option maxRecDepth 20000 in
theorem ggX5_firstFrom_X5_isIn : GoodIn wsX5_firstFrom wsX5_isIn := goodIn_r _ [11, 12, 13, 14, 3, 15, 16, 17, 18, 19, 20, 21, 22, 23, 24, 25, 26, 27, 28, 29] (by decide +kernel) (by decide +kernel)
set_option maxRecDepth 20000 in
theorem gX5_firstFrom_X5_isIn : GoodIn wsX5_firstFrom (wsV RX5 51 RX5 yX5_isIn wsX5_isIn) := goodIn_app (goodIn_of _ (by decide +kernel)) ggX5_firstFrom_X5_isIn
theorem dX5_firstFrom_0 : decode cX5_firstFrom 0 = .ok (.iload_n 2, 1) := by decide +kernel
theorem dX5_firstFrom_1 : decode cX5_firstFrom 1 = .ok (.istore 4, 2) := by decide +kernel
theorem dX5_firstFrom_3 : decode cX5_firstFrom 3 = .ok (.iload 4, 2) := by decide +kernel
theorem dX5_firstFrom_5 : decode cX5_firstFrom 5 = .ok (.invokestatic 112, 3) := by decide +kernel
theorem dX5_firstFrom_8 : decode cX5_firstFrom 8 = .ok (.ifCond .eq 25, 3) := by decide +kernel
theorem dX5_firstFrom_11 : decode cX5_firstFrom 11 = .ok (.aload_n 0, 1) := by decide +kernel
theorem dX5_firstFrom_12 : decode cX5_firstFrom 12 = .ok (.iload_n 1, 1) := by decide +kernel
theorem dX5_firstFrom_13 : decode cX5_firstFrom 13 = .ok (.iload 4, 2) := by decide +kernel
theorem dX5_firstFrom_15 : decode cX5_firstFrom 15 = .ok (.invokevirtual 51, 3) := by decide +kernel
theorem dX5_firstFrom_18 : decode cX5_firstFrom 18 = .ok (.ifCond .eq 6, 3) := by decide +kernel
theorem dX5_firstFrom_21 : decode cX5_firstFrom 21 = .ok (.iload 4, 2) := by decide +kernel
theorem dX5_firstFrom_23 : decode cX5_firstFrom 23 = .ok (.ireturn, 1) := by decide +kernel
theorem dX5_firstFrom_24 : decode cX5_firstFrom 24 = .ok (.iload 4, 2) := by decide +kernel
theorem dX5_firstFrom_26 : decode cX5_firstFrom 26 = .ok (.iload_n 3, 1) := by decide +kernel
theorem dX5_firstFrom_27 : decode cX5_firstFrom 27 = .ok (.iadd, 1) := by decide +kernel
theorem dX5_firstFrom_28 : decode cX5_firstFrom 28 = .ok (.istore 4, 2) := by decide +kernel
theorem dX5_firstFrom_30 : decode cX5_firstFrom 30 = .ok (.goto (-27), 3) := by decide +kernel
theorem dX5_firstFrom_33 : decode cX5_firstFrom 33 = .ok (.bipush (-5), 2) := by decide +kernel
theorem dX5_firstFrom_35 : decode cX5_firstFrom 35 = .ok (.ireturn, 1) := by decide +kernel
set_option maxRecDepth 20000 in
theorem ggX5_sumOf_X5_kindOf : GoodIn wsX5_sumOf wsX5_kindOf := goodIn_r _ [5, 6, 7, 8, 4, 9, 10, 32, 33, 34, 35, 36, 37, 38, 39, 40, 41, 42, 43, 44] (by decide +kernel) (by decide +kernel)
set_option maxRecDepth 20000 in
theorem gX5_sumOf_X5_kindOf : GoodIn wsX5_sumOf (wsV RX5 62 RX5 yX5_kindOf wsX5_kindOf) := goodIn_app (goodIn_of _ (by decide +kernel)) ggX5_sumOf_X5_kindOf
set_option maxRecDepth 20000 in
theorem ggX5_sumOf_X5_manyIn : GoodIn wsX5_sumOf wsX5_manyIn := goodIn_r _ [14, 15, 16, 17, 4, 18, 6, 7, 8, 9, 10, 32, 33, 34, 35, 36, 37, 38, 39, 40, 41, 42, 43, 44] (by decide +kernel) (by decide +kernel)
set_option maxRecDepth 20000 in
theorem gX5_sumOf_X5_manyIn : GoodIn wsX5_sumOf (wsV RX5 65 RX5 yX5_manyIn wsX5_manyIn) := goodIn_app (goodIn_of _ (by decide +kernel)) ggX5_sumOf_X5_manyIn
set_option maxRecDepth 20000 in
theorem ggX5_sumOf_X5_runsIn : GoodIn wsX5_sumOf wsX5_runsIn := goodIn_r _ [22, 15, 16, 17, 4, 18, 6, 7, 8, 9, 10, 32, 33, 34, 35, 36, 37, 38, 39, 40, 41, 42, 43, 44] (by decide +kernel) (by decide +kernel)
set_option maxRecDepth 20000 in
theorem gX5_sumOf_X5_runsIn : GoodIn wsX5_sumOf (wsV RX5 68 RX5 yX5_runsIn wsX5_runsIn) := goodIn_app (goodIn_of _ (by decide +kernel)) ggX5_sumOf_X5_runsIn
set_option maxRecDepth 20000 in
theorem ggX5_sumOf_X5_units : GoodIn wsX5_sumOf wsX5_units := goodIn_r _ [25] (by decide +kernel) (by decide +kernel)
set_option maxRecDepth 20000 in
theorem gX5_sumOf_X5_units : GoodIn wsX5_sumOf (va_wsS RX5 58 yX5_units wsX5_units) := goodIn_app (goodIn_of _ (by decide +kernel)) ggX5_sumOf_X5_units
set_option maxRecDepth 20000 in
theorem ggX5_sumOf_X5_best : GoodIn wsX5_sumOf wsX5_best := goodIn_r _ [28, 29, 30, 4, 31, 23, 24, 25] (by decide +kernel) (by decide +kernel)
set_option maxRecDepth 20000 in
theorem gX5_sumOf_X5_best : GoodIn wsX5_sumOf (va_wsS RX5 71 yX5_best wsX5_best) := goodIn_app (goodIn_of _ (by decide +kernel)) ggX5_sumOf_X5_best
theorem dX5_sumOf_0 : decode cX5_sumOf 0 = .ok (.iconst 0, 1) := by decide +kernel
theorem dX5_sumOf_1 : decode cX5_sumOf 1 = .ok (.istore_n 3, 1) := by decide +kernel
theorem dX5_sumOf_2 : decode cX5_sumOf 2 = .ok (.iconst 0, 1) := by decide +kernel
theorem dX5_sumOf_3 : decode cX5_sumOf 3 = .ok (.istore 4, 2) := by decide +kernel
theorem dX5_sumOf_5 : decode cX5_sumOf 5 = .ok (.iload 4, 2) := by decide +kernel
theorem dX5_sumOf_7 : decode cX5_sumOf 7 = .ok (.bipush 8, 2) := by decide +kernel
theorem dX5_sumOf_9 : decode cX5_sumOf 9 = .ok (.if_icmp .ge 87, 3) := by decide +kernel
theorem dX5_sumOf_12 : decode cX5_sumOf 12 = .ok (.aload_n 0, 1) := by decide +kernel
theorem dX5_sumOf_13 : decode cX5_sumOf 13 = .ok (.iload_n 1, 1) := by decide +kernel
theorem dX5_sumOf_14 : decode cX5_sumOf 14 = .ok (.iload 4, 2) := by decide +kernel
theorem dX5_sumOf_16 : decode cX5_sumOf 16 = .ok (.invokevirtual 62, 3) := by decide +kernel
theorem dX5_sumOf_19 : decode cX5_sumOf 19 = .ok (.ifCond .lt 71, 3) := by decide +kernel
theorem dX5_sumOf_22 : decode cX5_sumOf 22 = .ok (.aload_n 0, 1) := by decide +kernel
theorem dX5_sumOf_23 : decode cX5_sumOf 23 = .ok (.iload_n 1, 1) := by decide +kernel
theorem dX5_sumOf_24 : decode cX5_sumOf 24 = .ok (.iload 4, 2) := by decide +kernel
theorem dX5_sumOf_26 : decode cX5_sumOf 26 = .ok (.invokevirtual 65, 3) := by decide +kernel
theorem dX5_sumOf_29 : decode cX5_sumOf 29 = .ok (.istore 5, 2) := by decide +kernel
theorem dX5_sumOf_31 : decode cX5_sumOf 31 = .ok (.aload_n 0, 1) := by decide +kernel
theorem dX5_sumOf_32 : decode cX5_sumOf 32 = .ok (.iload_n 1, 1) := by decide +kernel
theorem dX5_sumOf_33 : decode cX5_sumOf 33 = .ok (.iload 4, 2) := by decide +kernel
theorem dX5_sumOf_35 : decode cX5_sumOf 35 = .ok (.invokevirtual 68, 3) := by decide +kernel
theorem dX5_sumOf_38 : decode cX5_sumOf 38 = .ok (.istore 6, 2) := by decide +kernel
theorem dX5_sumOf_40 : decode cX5_sumOf 40 = .ok (.iload_n 3, 1) := by decide +kernel
theorem dX5_sumOf_41 : decode cX5_sumOf 41 = .ok (.iload_n 2, 1) := by decide +kernel
theorem dX5_sumOf_42 : decode cX5_sumOf 42 = .ok (.iconst 2, 1) := by decide +kernel
theorem dX5_sumOf_43 : decode cX5_sumOf 43 = .ok (.if_icmp .ne 20, 3) := by decide +kernel
theorem dX5_sumOf_46 : decode cX5_sumOf 46 = .ok (.aload_n 0, 1) := by decide +kernel
theorem dX5_sumOf_47 : decode cX5_sumOf 47 = .ok (.iload_n 1, 1) := by decide +kernel
theorem dX5_sumOf_48 : decode cX5_sumOf 48 = .ok (.iload 4, 2) := by decide +kernel
theorem dX5_sumOf_50 : decode cX5_sumOf 50 = .ok (.invokevirtual 62, 3) := by decide +kernel
theorem dX5_sumOf_53 : decode cX5_sumOf 53 = .ok (.iload 5, 2) := by decide +kernel
theorem dX5_sumOf_55 : decode cX5_sumOf 55 = .ok (.iload 6, 2) := by decide +kernel
theorem dX5_sumOf_57 : decode cX5_sumOf 57 = .ok (.invokestatic 58, 3) := by decide +kernel
theorem dX5_sumOf_60 : decode cX5_sumOf 60 = .ok (.goto 28, 3) := by decide +kernel
theorem dX5_sumOf_63 : decode cX5_sumOf 63 = .ok (.iload_n 2, 1) := by decide +kernel
theorem dX5_sumOf_64 : decode cX5_sumOf 64 = .ok (.bipush 6, 2) := by decide +kernel
theorem dX5_sumOf_66 : decode cX5_sumOf 66 = .ok (.if_icmp .ne 8, 3) := by decide +kernel
theorem dX5_sumOf_69 : decode cX5_sumOf 69 = .ok (.iload 6, 2) := by decide +kernel
theorem dX5_sumOf_71 : decode cX5_sumOf 71 = .ok (.goto 17, 3) := by decide +kernel
theorem dX5_sumOf_74 : decode cX5_sumOf 74 = .ok (.iload 5, 2) := by decide +kernel
theorem dX5_sumOf_76 : decode cX5_sumOf 76 = .ok (.iload 6, 2) := by decide +kernel
theorem dX5_sumOf_78 : decode cX5_sumOf 78 = .ok (.invokestatic 71, 3) := by decide +kernel
theorem dX5_sumOf_81 : decode cX5_sumOf 81 = .ok (.iload 5, 2) := by decide +kernel
theorem dX5_sumOf_83 : decode cX5_sumOf 83 = .ok (.iload 6, 2) := by decide +kernel
theorem dX5_sumOf_85 : decode cX5_sumOf 85 = .ok (.invokestatic 58, 3) := by decide +kernel
theorem dX5_sumOf_88 : decode cX5_sumOf 88 = .ok (.iadd, 1) := by decide +kernel
theorem dX5_sumOf_89 : decode cX5_sumOf 89 = .ok (.istore_n 3, 1) := by decide +kernel
theorem dX5_sumOf_90 : decode cX5_sumOf 90 = .ok (.iinc 4 1, 3) := by decide +kernel
theorem dX5_sumOf_93 : decode cX5_sumOf 93 = .ok (.goto (-88), 3) := by decide +kernel
theorem dX5_sumOf_96 : decode cX5_sumOf 96 = .ok (.iload_n 3, 1) := by decide +kernel
theorem dX5_sumOf_97 : decode cX5_sumOf 97 = .ok (.ireturn, 1) := by decide +kernel
set_option maxRecDepth 20000 in
theorem ggX5_set_X5_isSet : GoodIn wsX5_set wsX5_isSet := goodIn_r _ [5, 6, 7, 8, 4, 9, 58, 59, 60, 61, 62, 63, 64, 65, 66, 67, 68, 69, 70] (by decide +kernel) (by decide +kernel)
set_option maxRecDepth 20000 in
theorem gX5_set_X5_isSet : GoodIn wsX5_set (wsV RX5 92 RX5 yX5_isSet wsX5_isSet) := goodIn_app (goodIn_of _ (by decide +kernel)) ggX5_set_X5_isSet
set_option maxRecDepth 20000 in
theorem ggX5_set_X5_rankOf : GoodIn wsX5_set wsX5_rankOf := goodIn_r _ [13, 14, 15, 16, 4, 17, 18, 19, 20, 21, 6, 58, 59, 60, 61, 62, 63, 64, 65, 66, 67, 68, 69, 70] (by decide +kernel) (by decide +kernel)
set_option maxRecDepth 20000 in
theorem gX5_set_X5_rankOf : GoodIn wsX5_set (wsV RX5 159 RX5 yX5_rankOf wsX5_rankOf) := goodIn_app (goodIn_of _ (by decide +kernel)) ggX5_set_X5_rankOf
set_option maxRecDepth 20000 in
theorem ggX5_set_X5_boatsOf : GoodIn wsX5_set wsX5_boatsOf := goodIn_r _ [25, 26, 27, 28, 4, 29, 18, 19, 20, 21, 6, 58, 59, 60, 61, 62, 63, 64, 65, 66, 67, 68, 69, 70] (by decide +kernel) (by decide +kernel)
set_option maxRecDepth 20000 in
theorem gX5_set_X5_boatsOf : GoodIn wsX5_set (wsV RX5 96 RX5 yX5_boatsOf wsX5_boatsOf) := goodIn_app (goodIn_of _ (by decide +kernel)) ggX5_set_X5_boatsOf
set_option maxRecDepth 20000 in
theorem ggX5_set_X5_sumOf : GoodIn wsX5_set wsX5_sumOf := goodIn_r _ [33, 26, 27, 28, 4, 29, 18, 19, 20, 21, 6, 34, 35, 36, 37, 14, 15, 16, 17, 38, 39, 40, 41, 42, 43, 44, 45, 46, 47, 48, 49, 50, 58, 59, 60, 61, 62, 63, 64, 65, 66, 67, 68, 69, 70] (by decide +kernel) (by decide +kernel)
set_option maxRecDepth 20000 in
theorem gX5_set_X5_sumOf : GoodIn wsX5_set (wsV RX5 162 RX5 yX5_sumOf wsX5_sumOf) := goodIn_app (goodIn_of _ (by decide +kernel)) ggX5_set_X5_sumOf
set_option maxRecDepth 20000 in
theorem ggX5_set_X5_of : GoodIn wsX5_set wsX5_of := goodIn_r _ [21, 6, 58, 59, 60, 61, 62, 63, 64, 65, 66, 67, 68, 69, 70] (by decide +kernel) (by decide +kernel)
set_option maxRecDepth 20000 in
theorem gX5_set_X5_of : GoodIn wsX5_set (wsV RX5 43 RX5 yX5_of wsX5_of) := goodIn_app (goodIn_of _ (by decide +kernel)) ggX5_set_X5_of
set_option maxRecDepth 20000 in
theorem ggX5_set_X5_firstFrom : GoodIn wsX5_set wsX5_firstFrom := goodIn_r _ [54, 55, 56, 4, 57, 7, 8, 9, 14, 15, 16, 17, 18, 19, 20, 21, 6, 58, 59, 60, 61, 62, 63, 64, 65, 66, 67, 68, 69, 70] (by decide +kernel) (by decide +kernel)
set_option maxRecDepth 20000 in
theorem gX5_set_X5_firstFrom : GoodIn wsX5_set (wsV RX5 165 RX5 yX5_firstFrom wsX5_firstFrom) := goodIn_app (goodIn_of _ (by decide +kernel)) ggX5_set_X5_firstFrom
theorem dX5_set_0 : decode cX5_set 0 = .ok (.aload_n 0, 1) := by decide +kernel
theorem dX5_set_1 : decode cX5_set 1 = .ok (.iload_n 1, 1) := by decide +kernel
theorem dX5_set_2 : decode cX5_set 2 = .ok (.invokevirtual 92, 3) := by decide +kernel
theorem dX5_set_5 : decode cX5_set 5 = .ok (.ifCond .ne 5, 3) := by decide +kernel
theorem dX5_set_8 : decode cX5_set 8 = .ok (.iconst (-1), 1) := by decide +kernel
theorem dX5_set_9 : decode cX5_set 9 = .ok (.ireturn, 1) := by decide +kernel
theorem dX5_set_10 : decode cX5_set 10 = .ok (.iload_n 2, 1) := by decide +kernel
theorem dX5_set_11 : decode cX5_set 11 = .ok (.tableswitch 114 0 9 #[53, 62, 68, 75, 82, 89, 68, 96, 104, 68], 53) := by decide +kernel
theorem dX5_set_64 : decode cX5_set 64 = .ok (.aload_n 0, 1) := by decide +kernel
theorem dX5_set_65 : decode cX5_set 65 = .ok (.iload_n 1, 1) := by decide +kernel
theorem dX5_set_66 : decode cX5_set 66 = .ok (.sipush 2048, 3) := by decide +kernel
theorem dX5_set_69 : decode cX5_set 69 = .ok (.invokevirtual 159, 3) := by decide +kernel
theorem dX5_set_72 : decode cX5_set 72 = .ok (.ireturn, 1) := by decide +kernel
theorem dX5_set_73 : decode cX5_set 73 = .ok (.aload_n 0, 1) := by decide +kernel
theorem dX5_set_74 : decode cX5_set 74 = .ok (.iload_n 1, 1) := by decide +kernel
theorem dX5_set_75 : decode cX5_set 75 = .ok (.invokevirtual 96, 3) := by decide +kernel
theorem dX5_set_78 : decode cX5_set 78 = .ok (.ireturn, 1) := by decide +kernel
theorem dX5_set_79 : decode cX5_set 79 = .ok (.aload_n 0, 1) := by decide +kernel
theorem dX5_set_80 : decode cX5_set 80 = .ok (.iload_n 1, 1) := by decide +kernel
theorem dX5_set_81 : decode cX5_set 81 = .ok (.iload_n 2, 1) := by decide +kernel
theorem dX5_set_82 : decode cX5_set 82 = .ok (.invokevirtual 162, 3) := by decide +kernel
theorem dX5_set_85 : decode cX5_set 85 = .ok (.ireturn, 1) := by decide +kernel
theorem dX5_set_86 : decode cX5_set 86 = .ok (.aload_n 0, 1) := by decide +kernel
theorem dX5_set_87 : decode cX5_set 87 = .ok (.iload_n 1, 1) := by decide +kernel
theorem dX5_set_88 : decode cX5_set 88 = .ok (.iconst 0, 1) := by decide +kernel
theorem dX5_set_89 : decode cX5_set 89 = .ok (.invokevirtual 43, 3) := by decide +kernel
theorem dX5_set_92 : decode cX5_set 92 = .ok (.ireturn, 1) := by decide +kernel
theorem dX5_set_93 : decode cX5_set 93 = .ok (.aload_n 0, 1) := by decide +kernel
theorem dX5_set_94 : decode cX5_set 94 = .ok (.iload_n 1, 1) := by decide +kernel
theorem dX5_set_95 : decode cX5_set 95 = .ok (.iconst 1, 1) := by decide +kernel
theorem dX5_set_96 : decode cX5_set 96 = .ok (.invokevirtual 43, 3) := by decide +kernel
theorem dX5_set_99 : decode cX5_set 99 = .ok (.ireturn, 1) := by decide +kernel
theorem dX5_set_100 : decode cX5_set 100 = .ok (.aload_n 0, 1) := by decide +kernel
theorem dX5_set_101 : decode cX5_set 101 = .ok (.iload_n 1, 1) := by decide +kernel
theorem dX5_set_102 : decode cX5_set 102 = .ok (.iconst 2, 1) := by decide +kernel
theorem dX5_set_103 : decode cX5_set 103 = .ok (.invokevirtual 43, 3) := by decide +kernel
theorem dX5_set_106 : decode cX5_set 106 = .ok (.ireturn, 1) := by decide +kernel
theorem dX5_set_107 : decode cX5_set 107 = .ok (.aload_n 0, 1) := by decide +kernel
theorem dX5_set_108 : decode cX5_set 108 = .ok (.iload_n 1, 1) := by decide +kernel
theorem dX5_set_109 : decode cX5_set 109 = .ok (.iconst 0, 1) := by decide +kernel
theorem dX5_set_110 : decode cX5_set 110 = .ok (.iconst 1, 1) := by decide +kernel
theorem dX5_set_111 : decode cX5_set 111 = .ok (.invokevirtual 165, 3) := by decide +kernel
theorem dX5_set_114 : decode cX5_set 114 = .ok (.ireturn, 1) := by decide +kernel
theorem dX5_set_115 : decode cX5_set 115 = .ok (.aload_n 0, 1) := by decide +kernel
theorem dX5_set_116 : decode cX5_set 116 = .ok (.iload_n 1, 1) := by decide +kernel
theorem dX5_set_117 : decode cX5_set 117 = .ok (.sipush 2047, 3) := by decide +kernel
theorem dX5_set_120 : decode cX5_set 120 = .ok (.iconst (-1), 1) := by decide +kernel
theorem dX5_set_121 : decode cX5_set 121 = .ok (.invokevirtual 165, 3) := by decide +kernel
theorem dX5_set_124 : decode cX5_set 124 = .ok (.ireturn, 1) := by decide +kernel
theorem dX5_set_125 : decode cX5_set 125 = .ok (.bipush (-2), 2) := by decide +kernel
theorem dX5_set_127 : decode cX5_set 127 = .ok (.ireturn, 1) := by decide +kernel
set_option maxRecDepth 20000 in
theorem ggX5_boat_X5_isSet : GoodIn wsX5_boat wsX5_isSet := goodIn_r _ [5, 6, 7, 8, 4, 9, 51, 52, 53, 54, 55, 56, 57, 58, 59, 60, 61, 62, 63] (by decide +kernel) (by decide +kernel)
set_option maxRecDepth 20000 in
theorem gX5_boat_X5_isSet : GoodIn wsX5_boat (wsV RX5 92 RX5 yX5_isSet wsX5_isSet) := goodIn_app (goodIn_of _ (by decide +kernel)) ggX5_boat_X5_isSet
set_option maxRecDepth 20000 in
theorem ggX5_boat_X5_in : GoodIn wsX5_boat wsX5_in := goodIn_r _ [9] (by decide +kernel) (by decide +kernel)
set_option maxRecDepth 20000 in
theorem gX5_boat_X5_in : GoodIn wsX5_boat (va_wsS RX5 39 yX5_in wsX5_in) := goodIn_app (goodIn_of _ (by decide +kernel)) ggX5_boat_X5_in
set_option maxRecDepth 20000 in
theorem ggX5_boat_X5_kindOf : GoodIn wsX5_boat wsX5_kindOf := goodIn_r _ [13, 14, 15, 16, 4, 17, 6, 51, 52, 53, 54, 55, 56, 57, 58, 59, 60, 61, 62, 63] (by decide +kernel) (by decide +kernel)
set_option maxRecDepth 20000 in
theorem gX5_boat_X5_kindOf : GoodIn wsX5_boat (wsV RX5 62 RX5 yX5_kindOf wsX5_kindOf) := goodIn_app (goodIn_of _ (by decide +kernel)) ggX5_boat_X5_kindOf
set_option maxRecDepth 20000 in
theorem ggX5_boat_X5_manyIn : GoodIn wsX5_boat wsX5_manyIn := goodIn_r _ [21, 22, 23, 24, 4, 25, 14, 15, 16, 17, 6, 51, 52, 53, 54, 55, 56, 57, 58, 59, 60, 61, 62, 63] (by decide +kernel) (by decide +kernel)
set_option maxRecDepth 20000 in
theorem gX5_boat_X5_manyIn : GoodIn wsX5_boat (wsV RX5 65 RX5 yX5_manyIn wsX5_manyIn) := goodIn_app (goodIn_of _ (by decide +kernel)) ggX5_boat_X5_manyIn
set_option maxRecDepth 20000 in
theorem ggX5_boat_X5_runsIn : GoodIn wsX5_boat wsX5_runsIn := goodIn_r _ [29, 22, 23, 24, 4, 25, 14, 15, 16, 17, 6, 51, 52, 53, 54, 55, 56, 57, 58, 59, 60, 61, 62, 63] (by decide +kernel) (by decide +kernel)
set_option maxRecDepth 20000 in
theorem gX5_boat_X5_runsIn : GoodIn wsX5_boat (wsV RX5 68 RX5 yX5_runsIn wsX5_runsIn) := goodIn_app (goodIn_of _ (by decide +kernel)) ggX5_boat_X5_runsIn
set_option maxRecDepth 20000 in
theorem ggX5_boat_X5_unitsOf : GoodIn wsX5_boat wsX5_unitsOf := goodIn_r _ [33, 10, 11, 12, 4, 13, 14, 15, 16, 17, 6, 18, 19, 20, 21, 22, 23, 24, 25, 26, 27, 28, 29, 34, 35, 36, 51, 52, 53, 54, 55, 56, 57, 58, 59, 60, 61, 62, 63] (by decide +kernel) (by decide +kernel)
set_option maxRecDepth 20000 in
theorem gX5_boat_X5_unitsOf : GoodIn wsX5_boat (wsV RX5 103 RX5 yX5_unitsOf wsX5_unitsOf) := goodIn_app (goodIn_of _ (by decide +kernel)) ggX5_boat_X5_unitsOf
set_option maxRecDepth 20000 in
theorem ggX5_boat_X5_bestOf : GoodIn wsX5_boat wsX5_bestOf := goodIn_r _ [40, 18, 19, 20, 4, 21, 22, 23, 24, 25, 14, 15, 16, 17, 6, 26, 27, 28, 29, 41, 42, 43, 44, 45, 46, 34, 35, 36, 51, 52, 53, 54, 55, 56, 57, 58, 59, 60, 61, 62, 63] (by decide +kernel) (by decide +kernel)
set_option maxRecDepth 20000 in
theorem gX5_boat_X5_bestOf : GoodIn wsX5_boat (wsV RX5 74 RX5 yX5_bestOf wsX5_bestOf) := goodIn_app (goodIn_of _ (by decide +kernel)) ggX5_boat_X5_bestOf
set_option maxRecDepth 20000 in
theorem ggX5_boat_X5_tollOf : GoodIn wsX5_boat wsX5_tollOf := goodIn_r _ [50, 37, 38, 39, 4, 40, 18, 19, 20, 21, 22, 23, 24, 25, 14, 15, 16, 17, 6, 26, 27, 28, 29, 41, 42, 43, 44, 45, 46, 34, 35, 36, 10, 11, 12, 13, 51, 52, 53, 54, 55, 56, 57, 58, 59, 60, 61, 62, 63] (by decide +kernel) (by decide +kernel)
set_option maxRecDepth 20000 in
theorem gX5_boat_X5_tollOf : GoodIn wsX5_boat (wsV RX5 77 RX5 yX5_tollOf wsX5_tollOf) := goodIn_app (goodIn_of _ (by decide +kernel)) ggX5_boat_X5_tollOf
theorem dX5_boat_0 : decode cX5_boat 0 = .ok (.aload_n 0, 1) := by decide +kernel
theorem dX5_boat_1 : decode cX5_boat 1 = .ok (.iload_n 1, 1) := by decide +kernel
theorem dX5_boat_2 : decode cX5_boat 2 = .ok (.invokevirtual 92, 3) := by decide +kernel
theorem dX5_boat_5 : decode cX5_boat 5 = .ok (.ifCond .ne 5, 3) := by decide +kernel
theorem dX5_boat_8 : decode cX5_boat 8 = .ok (.iconst (-1), 1) := by decide +kernel
theorem dX5_boat_9 : decode cX5_boat 9 = .ok (.ireturn, 1) := by decide +kernel
theorem dX5_boat_10 : decode cX5_boat 10 = .ok (.iload_n 2, 1) := by decide +kernel
theorem dX5_boat_11 : decode cX5_boat 11 = .ok (.iconst 0, 1) := by decide +kernel
theorem dX5_boat_12 : decode cX5_boat 12 = .ok (.bipush 7, 2) := by decide +kernel
theorem dX5_boat_14 : decode cX5_boat 14 = .ok (.invokestatic 39, 3) := by decide +kernel
theorem dX5_boat_17 : decode cX5_boat 17 = .ok (.ifCond .eq 12, 3) := by decide +kernel
theorem dX5_boat_20 : decode cX5_boat 20 = .ok (.iload_n 3, 1) := by decide +kernel
theorem dX5_boat_21 : decode cX5_boat 21 = .ok (.iconst 0, 1) := by decide +kernel
theorem dX5_boat_22 : decode cX5_boat 22 = .ok (.iconst 5, 1) := by decide +kernel
theorem dX5_boat_23 : decode cX5_boat 23 = .ok (.invokestatic 39, 3) := by decide +kernel
theorem dX5_boat_26 : decode cX5_boat 26 = .ok (.ifCond .ne 6, 3) := by decide +kernel
theorem dX5_boat_29 : decode cX5_boat 29 = .ok (.bipush (-2), 2) := by decide +kernel
theorem dX5_boat_31 : decode cX5_boat 31 = .ok (.ireturn, 1) := by decide +kernel
theorem dX5_boat_32 : decode cX5_boat 32 = .ok (.aload_n 0, 1) := by decide +kernel
theorem dX5_boat_33 : decode cX5_boat 33 = .ok (.iload_n 1, 1) := by decide +kernel
theorem dX5_boat_34 : decode cX5_boat 34 = .ok (.iload_n 2, 1) := by decide +kernel
theorem dX5_boat_35 : decode cX5_boat 35 = .ok (.invokevirtual 62, 3) := by decide +kernel
theorem dX5_boat_38 : decode cX5_boat 38 = .ok (.ifCond .ge 6, 3) := by decide +kernel
theorem dX5_boat_41 : decode cX5_boat 41 = .ok (.bipush (-5), 2) := by decide +kernel
theorem dX5_boat_43 : decode cX5_boat 43 = .ok (.ireturn, 1) := by decide +kernel
theorem dX5_boat_44 : decode cX5_boat 44 = .ok (.iload_n 3, 1) := by decide +kernel
theorem dX5_boat_45 : decode cX5_boat 45 = .ok (.tableswitch 70 0 4 #[35, 42, 49, 56, 63], 35) := by decide +kernel
theorem dX5_boat_80 : decode cX5_boat 80 = .ok (.aload_n 0, 1) := by decide +kernel
theorem dX5_boat_81 : decode cX5_boat 81 = .ok (.iload_n 1, 1) := by decide +kernel
theorem dX5_boat_82 : decode cX5_boat 82 = .ok (.iload_n 2, 1) := by decide +kernel
theorem dX5_boat_83 : decode cX5_boat 83 = .ok (.invokevirtual 62, 3) := by decide +kernel
theorem dX5_boat_86 : decode cX5_boat 86 = .ok (.ireturn, 1) := by decide +kernel
theorem dX5_boat_87 : decode cX5_boat 87 = .ok (.aload_n 0, 1) := by decide +kernel
theorem dX5_boat_88 : decode cX5_boat 88 = .ok (.iload_n 1, 1) := by decide +kernel
theorem dX5_boat_89 : decode cX5_boat 89 = .ok (.iload_n 2, 1) := by decide +kernel
theorem dX5_boat_90 : decode cX5_boat 90 = .ok (.invokevirtual 65, 3) := by decide +kernel
theorem dX5_boat_93 : decode cX5_boat 93 = .ok (.ireturn, 1) := by decide +kernel
theorem dX5_boat_94 : decode cX5_boat 94 = .ok (.aload_n 0, 1) := by decide +kernel
theorem dX5_boat_95 : decode cX5_boat 95 = .ok (.iload_n 1, 1) := by decide +kernel
theorem dX5_boat_96 : decode cX5_boat 96 = .ok (.iload_n 2, 1) := by decide +kernel
theorem dX5_boat_97 : decode cX5_boat 97 = .ok (.invokevirtual 68, 3) := by decide +kernel
theorem dX5_boat_100 : decode cX5_boat 100 = .ok (.ireturn, 1) := by decide +kernel
theorem dX5_boat_101 : decode cX5_boat 101 = .ok (.aload_n 0, 1) := by decide +kernel
theorem dX5_boat_102 : decode cX5_boat 102 = .ok (.iload_n 1, 1) := by decide +kernel
theorem dX5_boat_103 : decode cX5_boat 103 = .ok (.iload_n 2, 1) := by decide +kernel
theorem dX5_boat_104 : decode cX5_boat 104 = .ok (.invokevirtual 103, 3) := by decide +kernel
theorem dX5_boat_107 : decode cX5_boat 107 = .ok (.ireturn, 1) := by decide +kernel
theorem dX5_boat_108 : decode cX5_boat 108 = .ok (.aload_n 0, 1) := by decide +kernel
theorem dX5_boat_109 : decode cX5_boat 109 = .ok (.iload_n 1, 1) := by decide +kernel
theorem dX5_boat_110 : decode cX5_boat 110 = .ok (.iload_n 2, 1) := by decide +kernel
theorem dX5_boat_111 : decode cX5_boat 111 = .ok (.invokevirtual 74, 3) := by decide +kernel
theorem dX5_boat_114 : decode cX5_boat 114 = .ok (.ireturn, 1) := by decide +kernel
theorem dX5_boat_115 : decode cX5_boat 115 = .ok (.aload_n 0, 1) := by decide +kernel
theorem dX5_boat_116 : decode cX5_boat 116 = .ok (.iload_n 1, 1) := by decide +kernel
theorem dX5_boat_117 : decode cX5_boat 117 = .ok (.iload_n 2, 1) := by decide +kernel
theorem dX5_boat_118 : decode cX5_boat 118 = .ok (.invokevirtual 77, 3) := by decide +kernel
theorem dX5_boat_121 : decode cX5_boat 121 = .ok (.ireturn, 1) := by decide +kernel
set_option maxRecDepth 20000 in
theorem ggX5_rank_X5_isSet : GoodIn wsX5_rank wsX5_isSet := goodIn_r _ [5, 6, 7, 8, 4, 9, 25, 26, 27, 28, 29, 30, 31, 32, 33, 34, 35, 36, 37] (by decide +kernel) (by decide +kernel)
set_option maxRecDepth 20000 in
theorem gX5_rank_X5_isSet : GoodIn wsX5_rank (wsV RX5 92 RX5 yX5_isSet wsX5_isSet) := goodIn_app (goodIn_of _ (by decide +kernel)) ggX5_rank_X5_isSet
set_option maxRecDepth 20000 in
theorem ggX5_rank_X5_isNumber : GoodIn wsX5_rank wsX5_isNumber := goodIn_r _ [12, 7, 8, 4, 9] (by decide +kernel) (by decide +kernel)
set_option maxRecDepth 20000 in
theorem gX5_rank_X5_isNumber : GoodIn wsX5_rank (va_wsS RX5 112 yX5_isNumber wsX5_isNumber) := goodIn_app (goodIn_of _ (by decide +kernel)) ggX5_rank_X5_isNumber
set_option maxRecDepth 20000 in
theorem ggX5_rank_X5_rankOf : GoodIn wsX5_rank wsX5_rankOf := goodIn_r _ [16, 17, 18, 19, 4, 20, 21, 22, 23, 24, 6, 25, 26, 27, 28, 29, 30, 31, 32, 33, 34, 35, 36, 37] (by decide +kernel) (by decide +kernel)
set_option maxRecDepth 20000 in
theorem gX5_rank_X5_rankOf : GoodIn wsX5_rank (wsV RX5 159 RX5 yX5_rankOf wsX5_rankOf) := goodIn_app (goodIn_of _ (by decide +kernel)) ggX5_rank_X5_rankOf
theorem dX5_rank_0 : decode cX5_rank 0 = .ok (.aload_n 0, 1) := by decide +kernel
theorem dX5_rank_1 : decode cX5_rank 1 = .ok (.iload_n 1, 1) := by decide +kernel
theorem dX5_rank_2 : decode cX5_rank 2 = .ok (.invokevirtual 92, 3) := by decide +kernel
theorem dX5_rank_5 : decode cX5_rank 5 = .ok (.ifCond .ne 7, 3) := by decide +kernel
theorem dX5_rank_8 : decode cX5_rank 8 = .ok (.iconst (-1), 1) := by decide +kernel
theorem dX5_rank_9 : decode cX5_rank 9 = .ok (.goto 21, 3) := by decide +kernel
theorem dX5_rank_12 : decode cX5_rank 12 = .ok (.iload_n 2, 1) := by decide +kernel
theorem dX5_rank_13 : decode cX5_rank 13 = .ok (.invokestatic 112, 3) := by decide +kernel
theorem dX5_rank_16 : decode cX5_rank 16 = .ok (.ifCond .ne 8, 3) := by decide +kernel
theorem dX5_rank_19 : decode cX5_rank 19 = .ok (.bipush (-2), 2) := by decide +kernel
theorem dX5_rank_21 : decode cX5_rank 21 = .ok (.goto 9, 3) := by decide +kernel
theorem dX5_rank_24 : decode cX5_rank 24 = .ok (.aload_n 0, 1) := by decide +kernel
theorem dX5_rank_25 : decode cX5_rank 25 = .ok (.iload_n 1, 1) := by decide +kernel
theorem dX5_rank_26 : decode cX5_rank 26 = .ok (.iload_n 2, 1) := by decide +kernel
theorem dX5_rank_27 : decode cX5_rank 27 = .ok (.invokevirtual 159, 3) := by decide +kernel
theorem dX5_rank_30 : decode cX5_rank 30 = .ok (.ireturn, 1) := by decide +kernel
set_option maxRecDepth 20000 in
theorem ggX5_at_X5_isSet : GoodIn wsX5_at wsX5_isSet := goodIn_r _ [5, 6, 7, 8, 4, 9, 18, 19, 20, 21, 22, 23, 24, 25, 26, 27, 28, 29, 30] (by decide +kernel) (by decide +kernel)
set_option maxRecDepth 20000 in
theorem gX5_at_X5_isSet : GoodIn wsX5_at (wsV RX5 92 RX5 yX5_isSet wsX5_isSet) := goodIn_app (goodIn_of _ (by decide +kernel)) ggX5_at_X5_isSet
set_option maxRecDepth 20000 in
theorem ggX5_at_X5_isIn : GoodIn wsX5_at wsX5_isIn := goodIn_r _ [13, 14, 15, 16, 4, 17, 6, 18, 19, 20, 21, 22, 23, 24, 25, 26, 27, 28, 29, 30] (by decide +kernel) (by decide +kernel)
set_option maxRecDepth 20000 in
theorem gX5_at_X5_isIn : GoodIn wsX5_at (wsV RX5 51 RX5 yX5_isIn wsX5_isIn) := goodIn_app (goodIn_of _ (by decide +kernel)) ggX5_at_X5_isIn
theorem dX5_at_0 : decode cX5_at 0 = .ok (.aload_n 0, 1) := by decide +kernel
theorem dX5_at_1 : decode cX5_at 1 = .ok (.iload_n 1, 1) := by decide +kernel
theorem dX5_at_2 : decode cX5_at 2 = .ok (.invokevirtual 92, 3) := by decide +kernel
theorem dX5_at_5 : decode cX5_at 5 = .ok (.ifCond .ne 5, 3) := by decide +kernel
theorem dX5_at_8 : decode cX5_at 8 = .ok (.iconst (-1), 1) := by decide +kernel
theorem dX5_at_9 : decode cX5_at 9 = .ok (.ireturn, 1) := by decide +kernel
theorem dX5_at_10 : decode cX5_at 10 = .ok (.iload_n 2, 1) := by decide +kernel
theorem dX5_at_11 : decode cX5_at 11 = .ok (.ifCond .ge 6, 3) := by decide +kernel
theorem dX5_at_14 : decode cX5_at 14 = .ok (.bipush (-2), 2) := by decide +kernel
theorem dX5_at_16 : decode cX5_at 16 = .ok (.ireturn, 1) := by decide +kernel
theorem dX5_at_17 : decode cX5_at 17 = .ok (.iload_n 2, 1) := by decide +kernel
theorem dX5_at_18 : decode cX5_at 18 = .ok (.istore_n 3, 1) := by decide +kernel
theorem dX5_at_19 : decode cX5_at 19 = .ok (.iconst 0, 1) := by decide +kernel
theorem dX5_at_20 : decode cX5_at 20 = .ok (.istore 4, 2) := by decide +kernel
theorem dX5_at_22 : decode cX5_at 22 = .ok (.iload 4, 2) := by decide +kernel
theorem dX5_at_24 : decode cX5_at 24 = .ok (.sipush 2048, 3) := by decide +kernel
theorem dX5_at_27 : decode cX5_at 27 = .ok (.if_icmp .ge 29, 3) := by decide +kernel
theorem dX5_at_30 : decode cX5_at 30 = .ok (.aload_n 0, 1) := by decide +kernel
theorem dX5_at_31 : decode cX5_at 31 = .ok (.iload_n 1, 1) := by decide +kernel
theorem dX5_at_32 : decode cX5_at 32 = .ok (.iload 4, 2) := by decide +kernel
theorem dX5_at_34 : decode cX5_at 34 = .ok (.invokevirtual 51, 3) := by decide +kernel
theorem dX5_at_37 : decode cX5_at 37 = .ok (.ifCond .eq 13, 3) := by decide +kernel
theorem dX5_at_40 : decode cX5_at 40 = .ok (.iload_n 3, 1) := by decide +kernel
theorem dX5_at_41 : decode cX5_at 41 = .ok (.ifCond .ne 6, 3) := by decide +kernel
theorem dX5_at_44 : decode cX5_at 44 = .ok (.iload 4, 2) := by decide +kernel
theorem dX5_at_46 : decode cX5_at 46 = .ok (.ireturn, 1) := by decide +kernel
theorem dX5_at_47 : decode cX5_at 47 = .ok (.iinc 3 (-1), 3) := by decide +kernel
theorem dX5_at_50 : decode cX5_at 50 = .ok (.iinc 4 1, 3) := by decide +kernel
theorem dX5_at_53 : decode cX5_at 53 = .ok (.goto (-31), 3) := by decide +kernel
theorem dX5_at_56 : decode cX5_at 56 = .ok (.bipush (-5), 2) := by decide +kernel
theorem dX5_at_58 : decode cX5_at 58 = .ok (.ireturn, 1) := by decide +kernel
set_option maxRecDepth 20000 in
theorem ggX5_next_X5_isSet : GoodIn wsX5_next wsX5_isSet := goodIn_r _ [5, 6, 7, 8, 4, 9, 25, 26, 27, 28, 29, 30, 31, 32, 33, 34, 35, 36, 37] (by decide +kernel) (by decide +kernel)
set_option maxRecDepth 20000 in
theorem gX5_next_X5_isSet : GoodIn wsX5_next (wsV RX5 92 RX5 yX5_isSet wsX5_isSet) := goodIn_app (goodIn_of _ (by decide +kernel)) ggX5_next_X5_isSet
set_option maxRecDepth 20000 in
theorem ggX5_next_X5_isNumber : GoodIn wsX5_next wsX5_isNumber := goodIn_r _ [12, 7, 8, 4, 9] (by decide +kernel) (by decide +kernel)
set_option maxRecDepth 20000 in
theorem gX5_next_X5_isNumber : GoodIn wsX5_next (va_wsS RX5 112 yX5_isNumber wsX5_isNumber) := goodIn_app (goodIn_of _ (by decide +kernel)) ggX5_next_X5_isNumber
set_option maxRecDepth 20000 in
theorem ggX5_next_X5_firstFrom : GoodIn wsX5_next wsX5_firstFrom := goodIn_r _ [16, 10, 11, 4, 12, 7, 8, 9, 17, 18, 19, 20, 21, 22, 23, 24, 6, 25, 26, 27, 28, 29, 30, 31, 32, 33, 34, 35, 36, 37] (by decide +kernel) (by decide +kernel)
set_option maxRecDepth 20000 in
theorem gX5_next_X5_firstFrom : GoodIn wsX5_next (wsV RX5 165 RX5 yX5_firstFrom wsX5_firstFrom) := goodIn_app (goodIn_of _ (by decide +kernel)) ggX5_next_X5_firstFrom
theorem dX5_next_0 : decode cX5_next 0 = .ok (.aload_n 0, 1) := by decide +kernel
theorem dX5_next_1 : decode cX5_next 1 = .ok (.iload_n 1, 1) := by decide +kernel
theorem dX5_next_2 : decode cX5_next 2 = .ok (.invokevirtual 92, 3) := by decide +kernel
theorem dX5_next_5 : decode cX5_next 5 = .ok (.ifCond .ne 7, 3) := by decide +kernel
theorem dX5_next_8 : decode cX5_next 8 = .ok (.iconst (-1), 1) := by decide +kernel
theorem dX5_next_9 : decode cX5_next 9 = .ok (.goto 22, 3) := by decide +kernel
theorem dX5_next_12 : decode cX5_next 12 = .ok (.iload_n 2, 1) := by decide +kernel
theorem dX5_next_13 : decode cX5_next 13 = .ok (.invokestatic 112, 3) := by decide +kernel
theorem dX5_next_16 : decode cX5_next 16 = .ok (.ifCond .ne 8, 3) := by decide +kernel
theorem dX5_next_19 : decode cX5_next 19 = .ok (.bipush (-2), 2) := by decide +kernel
theorem dX5_next_21 : decode cX5_next 21 = .ok (.goto 10, 3) := by decide +kernel
theorem dX5_next_24 : decode cX5_next 24 = .ok (.aload_n 0, 1) := by decide +kernel
theorem dX5_next_25 : decode cX5_next 25 = .ok (.iload_n 1, 1) := by decide +kernel
theorem dX5_next_26 : decode cX5_next 26 = .ok (.iload_n 2, 1) := by decide +kernel
theorem dX5_next_27 : decode cX5_next 27 = .ok (.iconst 1, 1) := by decide +kernel
theorem dX5_next_28 : decode cX5_next 28 = .ok (.invokevirtual 165, 3) := by decide +kernel
theorem dX5_next_31 : decode cX5_next 31 = .ok (.ireturn, 1) := by decide +kernel
set_option maxRecDepth 20000 in
theorem ggX5_nearest_X5_isSet : GoodIn wsX5_nearest wsX5_isSet := goodIn_r _ [5, 6, 7, 8, 4, 9, 25, 26, 27, 28, 29, 30, 31, 32, 33, 34, 35, 36, 37] (by decide +kernel) (by decide +kernel)
set_option maxRecDepth 20000 in
theorem gX5_nearest_X5_isSet : GoodIn wsX5_nearest (wsV RX5 92 RX5 yX5_isSet wsX5_isSet) := goodIn_app (goodIn_of _ (by decide +kernel)) ggX5_nearest_X5_isSet
set_option maxRecDepth 20000 in
theorem ggX5_nearest_X5_isNumber : GoodIn wsX5_nearest wsX5_isNumber := goodIn_r _ [12, 7, 8, 4, 9] (by decide +kernel) (by decide +kernel)
set_option maxRecDepth 20000 in
theorem gX5_nearest_X5_isNumber : GoodIn wsX5_nearest (va_wsS RX5 112 yX5_isNumber wsX5_isNumber) := goodIn_app (goodIn_of _ (by decide +kernel)) ggX5_nearest_X5_isNumber
set_option maxRecDepth 20000 in
theorem ggX5_nearest_X5_firstFrom : GoodIn wsX5_nearest wsX5_firstFrom := goodIn_r _ [16, 10, 11, 4, 12, 7, 8, 9, 17, 18, 19, 20, 21, 22, 23, 24, 6, 25, 26, 27, 28, 29, 30, 31, 32, 33, 34, 35, 36, 37] (by decide +kernel) (by decide +kernel)
set_option maxRecDepth 20000 in
theorem gX5_nearest_X5_firstFrom : GoodIn wsX5_nearest (wsV RX5 165 RX5 yX5_firstFrom wsX5_firstFrom) := goodIn_app (goodIn_of _ (by decide +kernel)) ggX5_nearest_X5_firstFrom
theorem dX5_nearest_0 : decode cX5_nearest 0 = .ok (.aload_n 0, 1) := by decide +kernel
theorem dX5_nearest_1 : decode cX5_nearest 1 = .ok (.iload_n 1, 1) := by decide +kernel
theorem dX5_nearest_2 : decode cX5_nearest 2 = .ok (.invokevirtual 92, 3) := by decide +kernel
theorem dX5_nearest_5 : decode cX5_nearest 5 = .ok (.ifCond .ne 5, 3) := by decide +kernel
theorem dX5_nearest_8 : decode cX5_nearest 8 = .ok (.iconst (-1), 1) := by decide +kernel
theorem dX5_nearest_9 : decode cX5_nearest 9 = .ok (.ireturn, 1) := by decide +kernel
theorem dX5_nearest_10 : decode cX5_nearest 10 = .ok (.iload_n 2, 1) := by decide +kernel
theorem dX5_nearest_11 : decode cX5_nearest 11 = .ok (.invokestatic 112, 3) := by decide +kernel
theorem dX5_nearest_14 : decode cX5_nearest 14 = .ok (.ifCond .ne 6, 3) := by decide +kernel
theorem dX5_nearest_17 : decode cX5_nearest 17 = .ok (.bipush (-2), 2) := by decide +kernel
theorem dX5_nearest_19 : decode cX5_nearest 19 = .ok (.ireturn, 1) := by decide +kernel
theorem dX5_nearest_20 : decode cX5_nearest 20 = .ok (.aload_n 0, 1) := by decide +kernel
theorem dX5_nearest_21 : decode cX5_nearest 21 = .ok (.iload_n 1, 1) := by decide +kernel
theorem dX5_nearest_22 : decode cX5_nearest 22 = .ok (.iload_n 2, 1) := by decide +kernel
theorem dX5_nearest_23 : decode cX5_nearest 23 = .ok (.iconst 1, 1) := by decide +kernel
theorem dX5_nearest_24 : decode cX5_nearest 24 = .ok (.invokevirtual 165, 3) := by decide +kernel
theorem dX5_nearest_27 : decode cX5_nearest 27 = .ok (.istore_n 3, 1) := by decide +kernel
theorem dX5_nearest_28 : decode cX5_nearest 28 = .ok (.aload_n 0, 1) := by decide +kernel
theorem dX5_nearest_29 : decode cX5_nearest 29 = .ok (.iload_n 1, 1) := by decide +kernel
theorem dX5_nearest_30 : decode cX5_nearest 30 = .ok (.iload_n 2, 1) := by decide +kernel
theorem dX5_nearest_31 : decode cX5_nearest 31 = .ok (.iconst (-1), 1) := by decide +kernel
theorem dX5_nearest_32 : decode cX5_nearest 32 = .ok (.invokevirtual 165, 3) := by decide +kernel
theorem dX5_nearest_35 : decode cX5_nearest 35 = .ok (.istore 4, 2) := by decide +kernel
theorem dX5_nearest_37 : decode cX5_nearest 37 = .ok (.iload 4, 2) := by decide +kernel
theorem dX5_nearest_39 : decode cX5_nearest 39 = .ok (.bipush (-5), 2) := by decide +kernel
theorem dX5_nearest_41 : decode cX5_nearest 41 = .ok (.if_icmp .eq 19, 3) := by decide +kernel
theorem dX5_nearest_44 : decode cX5_nearest 44 = .ok (.iload_n 3, 1) := by decide +kernel
theorem dX5_nearest_45 : decode cX5_nearest 45 = .ok (.bipush (-5), 2) := by decide +kernel
theorem dX5_nearest_47 : decode cX5_nearest 47 = .ok (.if_icmp .eq 17, 3) := by decide +kernel
theorem dX5_nearest_50 : decode cX5_nearest 50 = .ok (.iload_n 3, 1) := by decide +kernel
theorem dX5_nearest_51 : decode cX5_nearest 51 = .ok (.iload_n 2, 1) := by decide +kernel
theorem dX5_nearest_52 : decode cX5_nearest 52 = .ok (.isub, 1) := by decide +kernel
theorem dX5_nearest_53 : decode cX5_nearest 53 = .ok (.iload_n 2, 1) := by decide +kernel
theorem dX5_nearest_54 : decode cX5_nearest 54 = .ok (.iload 4, 2) := by decide +kernel
theorem dX5_nearest_56 : decode cX5_nearest 56 = .ok (.isub, 1) := by decide +kernel
theorem dX5_nearest_57 : decode cX5_nearest 57 = .ok (.if_icmp .ge 7, 3) := by decide +kernel
theorem dX5_nearest_60 : decode cX5_nearest 60 = .ok (.iload_n 3, 1) := by decide +kernel
theorem dX5_nearest_61 : decode cX5_nearest 61 = .ok (.goto 5, 3) := by decide +kernel
theorem dX5_nearest_64 : decode cX5_nearest 64 = .ok (.iload 4, 2) := by decide +kernel
theorem dX5_nearest_66 : decode cX5_nearest 66 = .ok (.ireturn, 1) := by decide +kernel
set_option maxRecDepth 20000 in
theorem ggX5_gap_X5_isSet : GoodIn wsX5_gap wsX5_isSet := goodIn_r _ [5, 6, 7, 8, 4, 9, 18, 19, 20, 21, 22, 23, 24, 25, 26, 27, 28, 29, 30] (by decide +kernel) (by decide +kernel)
set_option maxRecDepth 20000 in
theorem gX5_gap_X5_isSet : GoodIn wsX5_gap (wsV RX5 92 RX5 yX5_isSet wsX5_isSet) := goodIn_app (goodIn_of _ (by decide +kernel)) ggX5_gap_X5_isSet
set_option maxRecDepth 20000 in
theorem ggX5_gap_X5_in : GoodIn wsX5_gap wsX5_in := goodIn_r _ [9] (by decide +kernel) (by decide +kernel)
set_option maxRecDepth 20000 in
theorem gX5_gap_X5_in : GoodIn wsX5_gap (va_wsS RX5 39 yX5_in wsX5_in) := goodIn_app (goodIn_of _ (by decide +kernel)) ggX5_gap_X5_in
set_option maxRecDepth 20000 in
theorem ggX5_gap_X5_isIn : GoodIn wsX5_gap wsX5_isIn := goodIn_r _ [13, 14, 15, 16, 4, 17, 6, 18, 19, 20, 21, 22, 23, 24, 25, 26, 27, 28, 29, 30] (by decide +kernel) (by decide +kernel)
set_option maxRecDepth 20000 in
theorem gX5_gap_X5_isIn : GoodIn wsX5_gap (wsV RX5 51 RX5 yX5_isIn wsX5_isIn) := goodIn_app (goodIn_of _ (by decide +kernel)) ggX5_gap_X5_isIn
theorem dX5_gap_0 : decode cX5_gap 0 = .ok (.aload_n 0, 1) := by decide +kernel
theorem dX5_gap_1 : decode cX5_gap 1 = .ok (.iload_n 1, 1) := by decide +kernel
theorem dX5_gap_2 : decode cX5_gap 2 = .ok (.invokevirtual 92, 3) := by decide +kernel
theorem dX5_gap_5 : decode cX5_gap 5 = .ok (.ifCond .ne 5, 3) := by decide +kernel
theorem dX5_gap_8 : decode cX5_gap 8 = .ok (.iconst (-1), 1) := by decide +kernel
theorem dX5_gap_9 : decode cX5_gap 9 = .ok (.ireturn, 1) := by decide +kernel
theorem dX5_gap_10 : decode cX5_gap 10 = .ok (.iload_n 2, 1) := by decide +kernel
theorem dX5_gap_11 : decode cX5_gap 11 = .ok (.iconst 1, 1) := by decide +kernel
theorem dX5_gap_12 : decode cX5_gap 12 = .ok (.sipush 2048, 3) := by decide +kernel
theorem dX5_gap_15 : decode cX5_gap 15 = .ok (.invokestatic 39, 3) := by decide +kernel
theorem dX5_gap_18 : decode cX5_gap 18 = .ok (.ifCond .ne 6, 3) := by decide +kernel
theorem dX5_gap_21 : decode cX5_gap 21 = .ok (.bipush (-2), 2) := by decide +kernel
theorem dX5_gap_23 : decode cX5_gap 23 = .ok (.ireturn, 1) := by decide +kernel
theorem dX5_gap_24 : decode cX5_gap 24 = .ok (.iconst 0, 1) := by decide +kernel
theorem dX5_gap_25 : decode cX5_gap 25 = .ok (.istore_n 3, 1) := by decide +kernel
theorem dX5_gap_26 : decode cX5_gap 26 = .ok (.iconst 0, 1) := by decide +kernel
theorem dX5_gap_27 : decode cX5_gap 27 = .ok (.istore 4, 2) := by decide +kernel
theorem dX5_gap_29 : decode cX5_gap 29 = .ok (.iload 4, 2) := by decide +kernel
theorem dX5_gap_31 : decode cX5_gap 31 = .ok (.sipush 2048, 3) := by decide +kernel
theorem dX5_gap_34 : decode cX5_gap 34 = .ok (.if_icmp .ge 39, 3) := by decide +kernel
theorem dX5_gap_37 : decode cX5_gap 37 = .ok (.aload_n 0, 1) := by decide +kernel
theorem dX5_gap_38 : decode cX5_gap 38 = .ok (.iload_n 1, 1) := by decide +kernel
theorem dX5_gap_39 : decode cX5_gap 39 = .ok (.iload 4, 2) := by decide +kernel
theorem dX5_gap_41 : decode cX5_gap 41 = .ok (.invokevirtual 51, 3) := by decide +kernel
theorem dX5_gap_44 : decode cX5_gap 44 = .ok (.ifCond .eq 7, 3) := by decide +kernel
theorem dX5_gap_47 : decode cX5_gap 47 = .ok (.iconst 0, 1) := by decide +kernel
theorem dX5_gap_48 : decode cX5_gap 48 = .ok (.goto 6, 3) := by decide +kernel
theorem dX5_gap_51 : decode cX5_gap 51 = .ok (.iload_n 3, 1) := by decide +kernel
theorem dX5_gap_52 : decode cX5_gap 52 = .ok (.iconst 1, 1) := by decide +kernel
theorem dX5_gap_53 : decode cX5_gap 53 = .ok (.iadd, 1) := by decide +kernel
theorem dX5_gap_54 : decode cX5_gap 54 = .ok (.istore_n 3, 1) := by decide +kernel
theorem dX5_gap_55 : decode cX5_gap 55 = .ok (.iload_n 3, 1) := by decide +kernel
theorem dX5_gap_56 : decode cX5_gap 56 = .ok (.iload_n 2, 1) := by decide +kernel
theorem dX5_gap_57 : decode cX5_gap 57 = .ok (.if_icmp .ne 10, 3) := by decide +kernel
theorem dX5_gap_60 : decode cX5_gap 60 = .ok (.iload 4, 2) := by decide +kernel
theorem dX5_gap_62 : decode cX5_gap 62 = .ok (.iload_n 2, 1) := by decide +kernel
theorem dX5_gap_63 : decode cX5_gap 63 = .ok (.isub, 1) := by decide +kernel
theorem dX5_gap_64 : decode cX5_gap 64 = .ok (.iconst 1, 1) := by decide +kernel
theorem dX5_gap_65 : decode cX5_gap 65 = .ok (.iadd, 1) := by decide +kernel
theorem dX5_gap_66 : decode cX5_gap 66 = .ok (.ireturn, 1) := by decide +kernel
theorem dX5_gap_67 : decode cX5_gap 67 = .ok (.iinc 4 1, 3) := by decide +kernel
theorem dX5_gap_70 : decode cX5_gap 70 = .ok (.goto (-41), 3) := by decide +kernel
theorem dX5_gap_73 : decode cX5_gap 73 = .ok (.bipush (-5), 2) := by decide +kernel
theorem dX5_gap_75 : decode cX5_gap 75 = .ok (.ireturn, 1) := by decide +kernel
set_option maxRecDepth 20000 in
theorem ggX5_sizeOf_X5_isSet : GoodIn wsX5_sizeOf wsX5_isSet := goodIn_r _ [5, 6, 7, 8, 4, 9, 26, 27, 28, 29, 30, 31, 32, 33, 34, 35, 36, 37, 38] (by decide +kernel) (by decide +kernel)
set_option maxRecDepth 20000 in
theorem gX5_sizeOf_X5_isSet : GoodIn wsX5_sizeOf (wsV RX5 92 RX5 yX5_isSet wsX5_isSet) := goodIn_app (goodIn_of _ (by decide +kernel)) ggX5_sizeOf_X5_isSet
set_option maxRecDepth 20000 in
theorem ggX5_sizeOf_X5_in : GoodIn wsX5_sizeOf wsX5_in := goodIn_r _ [9] (by decide +kernel) (by decide +kernel)
set_option maxRecDepth 20000 in
theorem gX5_sizeOf_X5_in : GoodIn wsX5_sizeOf (va_wsS RX5 39 yX5_in wsX5_in) := goodIn_app (goodIn_of _ (by decide +kernel)) ggX5_sizeOf_X5_in
set_option maxRecDepth 20000 in
theorem ggX5_sizeOf_X5_laysGiven : GoodIn wsX5_sizeOf wsX5_laysGiven := goodIn_r _ [13, 14, 15, 16, 17, 4, 18, 19, 20, 21, 22, 6, 23, 24, 25, 26, 27, 28, 29, 30, 31, 32, 33, 34, 35, 36, 37, 38] (by decide +kernel) (by decide +kernel)
set_option maxRecDepth 20000 in
theorem gX5_sizeOf_X5_laysGiven : GoodIn wsX5_sizeOf (wsV RX5 133 RX5 yX5_laysGiven wsX5_laysGiven) := goodIn_app (goodIn_of _ (by decide +kernel)) ggX5_sizeOf_X5_laysGiven
theorem dX5_sizeOf_0 : decode cX5_sizeOf 0 = .ok (.aload_n 0, 1) := by decide +kernel
theorem dX5_sizeOf_1 : decode cX5_sizeOf 1 = .ok (.iload_n 2, 1) := by decide +kernel
theorem dX5_sizeOf_2 : decode cX5_sizeOf 2 = .ok (.invokevirtual 92, 3) := by decide +kernel
theorem dX5_sizeOf_5 : decode cX5_sizeOf 5 = .ok (.ifCond .eq 11, 3) := by decide +kernel
theorem dX5_sizeOf_8 : decode cX5_sizeOf 8 = .ok (.aload_n 0, 1) := by decide +kernel
theorem dX5_sizeOf_9 : decode cX5_sizeOf 9 = .ok (.iload_n 3, 1) := by decide +kernel
theorem dX5_sizeOf_10 : decode cX5_sizeOf 10 = .ok (.invokevirtual 92, 3) := by decide +kernel
theorem dX5_sizeOf_13 : decode cX5_sizeOf 13 = .ok (.ifCond .ne 7, 3) := by decide +kernel
theorem dX5_sizeOf_16 : decode cX5_sizeOf 16 = .ok (.iconst (-1), 1) := by decide +kernel
theorem dX5_sizeOf_17 : decode cX5_sizeOf 17 = .ok (.goto 24, 3) := by decide +kernel
theorem dX5_sizeOf_20 : decode cX5_sizeOf 20 = .ok (.iload_n 1, 1) := by decide +kernel
theorem dX5_sizeOf_21 : decode cX5_sizeOf 21 = .ok (.iconst 0, 1) := by decide +kernel
theorem dX5_sizeOf_22 : decode cX5_sizeOf 22 = .ok (.iconst 3, 1) := by decide +kernel
theorem dX5_sizeOf_23 : decode cX5_sizeOf 23 = .ok (.invokestatic 39, 3) := by decide +kernel
theorem dX5_sizeOf_26 : decode cX5_sizeOf 26 = .ok (.ifCond .ne 8, 3) := by decide +kernel
theorem dX5_sizeOf_29 : decode cX5_sizeOf 29 = .ok (.bipush (-2), 2) := by decide +kernel
theorem dX5_sizeOf_31 : decode cX5_sizeOf 31 = .ok (.goto 10, 3) := by decide +kernel
theorem dX5_sizeOf_34 : decode cX5_sizeOf 34 = .ok (.aload_n 0, 1) := by decide +kernel
theorem dX5_sizeOf_35 : decode cX5_sizeOf 35 = .ok (.iload_n 1, 1) := by decide +kernel
theorem dX5_sizeOf_36 : decode cX5_sizeOf 36 = .ok (.iload_n 2, 1) := by decide +kernel
theorem dX5_sizeOf_37 : decode cX5_sizeOf 37 = .ok (.iload_n 3, 1) := by decide +kernel
theorem dX5_sizeOf_38 : decode cX5_sizeOf 38 = .ok (.invokevirtual 133, 3) := by decide +kernel
theorem dX5_sizeOf_41 : decode cX5_sizeOf 41 = .ok (.ireturn, 1) := by decide +kernel
set_option maxRecDepth 20000 in
theorem ggX5_setsWith_X5_isIn : GoodIn wsX5_setsWith wsX5_isIn := goodIn_r _ [6, 7, 8, 9, 5, 10, 1, 11, 12, 13, 14, 15, 16, 17, 18, 19, 20, 21, 22, 23] (by decide +kernel) (by decide +kernel)
set_option maxRecDepth 20000 in
theorem gX5_setsWith_X5_isIn : GoodIn wsX5_setsWith (wsV RX5 51 RX5 yX5_isIn wsX5_isIn) := goodIn_app (goodIn_of _ (by decide +kernel)) ggX5_setsWith_X5_isIn
theorem dX5_setsWith_0 : decode cX5_setsWith 0 = .ok (.iconst 0, 1) := by decide +kernel
theorem dX5_setsWith_1 : decode cX5_setsWith 1 = .ok (.istore_n 2, 1) := by decide +kernel
theorem dX5_setsWith_2 : decode cX5_setsWith 2 = .ok (.iconst 0, 1) := by decide +kernel
theorem dX5_setsWith_3 : decode cX5_setsWith 3 = .ok (.istore_n 3, 1) := by decide +kernel
theorem dX5_setsWith_4 : decode cX5_setsWith 4 = .ok (.iload_n 3, 1) := by decide +kernel
theorem dX5_setsWith_5 : decode cX5_setsWith 5 = .ok (.aload_n 0, 1) := by decide +kernel
theorem dX5_setsWith_6 : decode cX5_setsWith 6 = .ok (.getfield 7, 3) := by decide +kernel
theorem dX5_setsWith_9 : decode cX5_setsWith 9 = .ok (.iconst 0, 1) := by decide +kernel
theorem dX5_setsWith_10 : decode cX5_setsWith 10 = .ok (.iaload, 1) := by decide +kernel
theorem dX5_setsWith_11 : decode cX5_setsWith 11 = .ok (.if_icmp .ge 26, 3) := by decide +kernel
theorem dX5_setsWith_14 : decode cX5_setsWith 14 = .ok (.iload_n 2, 1) := by decide +kernel
theorem dX5_setsWith_15 : decode cX5_setsWith 15 = .ok (.aload_n 0, 1) := by decide +kernel
theorem dX5_setsWith_16 : decode cX5_setsWith 16 = .ok (.iload_n 3, 1) := by decide +kernel
theorem dX5_setsWith_17 : decode cX5_setsWith 17 = .ok (.iload_n 1, 1) := by decide +kernel
theorem dX5_setsWith_18 : decode cX5_setsWith 18 = .ok (.invokevirtual 51, 3) := by decide +kernel
theorem dX5_setsWith_21 : decode cX5_setsWith 21 = .ok (.ifCond .eq 7, 3) := by decide +kernel
theorem dX5_setsWith_24 : decode cX5_setsWith 24 = .ok (.iconst 1, 1) := by decide +kernel
theorem dX5_setsWith_25 : decode cX5_setsWith 25 = .ok (.goto 4, 3) := by decide +kernel
theorem dX5_setsWith_28 : decode cX5_setsWith 28 = .ok (.iconst 0, 1) := by decide +kernel
theorem dX5_setsWith_29 : decode cX5_setsWith 29 = .ok (.iadd, 1) := by decide +kernel
theorem dX5_setsWith_30 : decode cX5_setsWith 30 = .ok (.istore_n 2, 1) := by decide +kernel
theorem dX5_setsWith_31 : decode cX5_setsWith 31 = .ok (.iinc 3 1, 3) := by decide +kernel
theorem dX5_setsWith_34 : decode cX5_setsWith 34 = .ok (.goto (-30), 3) := by decide +kernel
theorem dX5_setsWith_37 : decode cX5_setsWith 37 = .ok (.iload_n 2, 1) := by decide +kernel
theorem dX5_setsWith_38 : decode cX5_setsWith 38 = .ok (.ireturn, 1) := by decide +kernel
set_option maxRecDepth 20000 in
theorem ggX5_ofAll_X5_setsWith : GoodIn wsX5_ofAll wsX5_setsWith := goodIn_r _ [5, 6, 7, 8, 9, 4, 10, 11, 12, 13, 14, 15, 16, 17, 18, 19, 20, 21, 22, 23, 24, 25, 26, 27] (by decide +kernel) (by decide +kernel)
set_option maxRecDepth 20000 in
theorem gX5_ofAll_X5_setsWith : GoodIn wsX5_ofAll (wsV RX5 168 RX5 yX5_setsWith wsX5_setsWith) := goodIn_app (goodIn_of _ (by decide +kernel)) ggX5_ofAll_X5_setsWith
theorem dX5_ofAll_0 : decode cX5_ofAll 0 = .ok (.iload_n 1, 1) := by decide +kernel
theorem dX5_ofAll_1 : decode cX5_ofAll 1 = .ok (.ifCond .ge 6, 3) := by decide +kernel
theorem dX5_ofAll_4 : decode cX5_ofAll 4 = .ok (.bipush (-2), 2) := by decide +kernel
theorem dX5_ofAll_6 : decode cX5_ofAll 6 = .ok (.ireturn, 1) := by decide +kernel
theorem dX5_ofAll_7 : decode cX5_ofAll 7 = .ok (.iload_n 1, 1) := by decide +kernel
theorem dX5_ofAll_8 : decode cX5_ofAll 8 = .ok (.istore_n 2, 1) := by decide +kernel
theorem dX5_ofAll_9 : decode cX5_ofAll 9 = .ok (.iconst 0, 1) := by decide +kernel
theorem dX5_ofAll_10 : decode cX5_ofAll 10 = .ok (.istore_n 3, 1) := by decide +kernel
theorem dX5_ofAll_11 : decode cX5_ofAll 11 = .ok (.iload_n 3, 1) := by decide +kernel
theorem dX5_ofAll_12 : decode cX5_ofAll 12 = .ok (.sipush 2048, 3) := by decide +kernel
theorem dX5_ofAll_15 : decode cX5_ofAll 15 = .ok (.if_icmp .ge 29, 3) := by decide +kernel
theorem dX5_ofAll_18 : decode cX5_ofAll 18 = .ok (.aload_n 0, 1) := by decide +kernel
theorem dX5_ofAll_19 : decode cX5_ofAll 19 = .ok (.iload_n 3, 1) := by decide +kernel
theorem dX5_ofAll_20 : decode cX5_ofAll 20 = .ok (.invokevirtual 168, 3) := by decide +kernel
theorem dX5_ofAll_23 : decode cX5_ofAll 23 = .ok (.istore 4, 2) := by decide +kernel
theorem dX5_ofAll_25 : decode cX5_ofAll 25 = .ok (.iload_n 2, 1) := by decide +kernel
theorem dX5_ofAll_26 : decode cX5_ofAll 26 = .ok (.iload 4, 2) := by decide +kernel
theorem dX5_ofAll_28 : decode cX5_ofAll 28 = .ok (.if_icmp .ge 5, 3) := by decide +kernel
theorem dX5_ofAll_31 : decode cX5_ofAll 31 = .ok (.iload_n 3, 1) := by decide +kernel
theorem dX5_ofAll_32 : decode cX5_ofAll 32 = .ok (.ireturn, 1) := by decide +kernel
theorem dX5_ofAll_33 : decode cX5_ofAll 33 = .ok (.iload_n 2, 1) := by decide +kernel
theorem dX5_ofAll_34 : decode cX5_ofAll 34 = .ok (.iload 4, 2) := by decide +kernel
theorem dX5_ofAll_36 : decode cX5_ofAll 36 = .ok (.isub, 1) := by decide +kernel
theorem dX5_ofAll_37 : decode cX5_ofAll 37 = .ok (.istore_n 2, 1) := by decide +kernel
theorem dX5_ofAll_38 : decode cX5_ofAll 38 = .ok (.iinc 3 1, 3) := by decide +kernel
theorem dX5_ofAll_41 : decode cX5_ofAll 41 = .ok (.goto (-30), 3) := by decide +kernel
theorem dX5_ofAll_44 : decode cX5_ofAll 44 = .ok (.bipush (-5), 2) := by decide +kernel
theorem dX5_ofAll_46 : decode cX5_ofAll 46 = .ok (.ireturn, 1) := by decide +kernel
set_option maxRecDepth 20000 in
theorem ggX5_most_X5_setsWith : GoodIn wsX5_most wsX5_setsWith := goodIn_r _ [5, 6, 7, 8, 9, 4, 10, 11, 12, 13, 14, 15, 16, 17, 18, 19, 20, 21, 22, 23, 24, 25, 26, 27] (by decide +kernel) (by decide +kernel)
set_option maxRecDepth 20000 in
theorem gX5_most_X5_setsWith : GoodIn wsX5_most (wsV RX5 168 RX5 yX5_setsWith wsX5_setsWith) := goodIn_app (goodIn_of _ (by decide +kernel)) ggX5_most_X5_setsWith
theorem dX5_most_0 : decode cX5_most 0 = .ok (.bipush (-5), 2) := by decide +kernel
theorem dX5_most_2 : decode cX5_most 2 = .ok (.istore_n 1, 1) := by decide +kernel
theorem dX5_most_3 : decode cX5_most 3 = .ok (.iconst 0, 1) := by decide +kernel
theorem dX5_most_4 : decode cX5_most 4 = .ok (.istore_n 2, 1) := by decide +kernel
theorem dX5_most_5 : decode cX5_most 5 = .ok (.iconst 0, 1) := by decide +kernel
theorem dX5_most_6 : decode cX5_most 6 = .ok (.istore_n 3, 1) := by decide +kernel
theorem dX5_most_7 : decode cX5_most 7 = .ok (.iload_n 3, 1) := by decide +kernel
theorem dX5_most_8 : decode cX5_most 8 = .ok (.sipush 2048, 3) := by decide +kernel
theorem dX5_most_11 : decode cX5_most 11 = .ok (.if_icmp .ge 41, 3) := by decide +kernel
theorem dX5_most_14 : decode cX5_most 14 = .ok (.aload_n 0, 1) := by decide +kernel
theorem dX5_most_15 : decode cX5_most 15 = .ok (.iload_n 3, 1) := by decide +kernel
theorem dX5_most_16 : decode cX5_most 16 = .ok (.invokevirtual 168, 3) := by decide +kernel
theorem dX5_most_19 : decode cX5_most 19 = .ok (.istore 4, 2) := by decide +kernel
theorem dX5_most_21 : decode cX5_most 21 = .ok (.iload 4, 2) := by decide +kernel
theorem dX5_most_23 : decode cX5_most 23 = .ok (.iload_n 2, 1) := by decide +kernel
theorem dX5_most_24 : decode cX5_most 24 = .ok (.if_icmp .le 7, 3) := by decide +kernel
theorem dX5_most_27 : decode cX5_most 27 = .ok (.iload_n 3, 1) := by decide +kernel
theorem dX5_most_28 : decode cX5_most 28 = .ok (.goto 4, 3) := by decide +kernel
theorem dX5_most_31 : decode cX5_most 31 = .ok (.iload_n 1, 1) := by decide +kernel
theorem dX5_most_32 : decode cX5_most 32 = .ok (.istore_n 1, 1) := by decide +kernel
theorem dX5_most_33 : decode cX5_most 33 = .ok (.iload 4, 2) := by decide +kernel
theorem dX5_most_35 : decode cX5_most 35 = .ok (.iload_n 2, 1) := by decide +kernel
theorem dX5_most_36 : decode cX5_most 36 = .ok (.if_icmp .le 8, 3) := by decide +kernel
theorem dX5_most_39 : decode cX5_most 39 = .ok (.iload 4, 2) := by decide +kernel
theorem dX5_most_41 : decode cX5_most 41 = .ok (.goto 4, 3) := by decide +kernel
theorem dX5_most_44 : decode cX5_most 44 = .ok (.iload_n 2, 1) := by decide +kernel
theorem dX5_most_45 : decode cX5_most 45 = .ok (.istore_n 2, 1) := by decide +kernel
theorem dX5_most_46 : decode cX5_most 46 = .ok (.iinc 3 1, 3) := by decide +kernel
theorem dX5_most_49 : decode cX5_most 49 = .ok (.goto (-42), 3) := by decide +kernel
theorem dX5_most_52 : decode cX5_most 52 = .ok (.iload_n 1, 1) := by decide +kernel
theorem dX5_most_53 : decode cX5_most 53 = .ok (.ireturn, 1) := by decide +kernel
set_option maxRecDepth 20000 in
theorem ggX5_tollToDock_X5_isSet : GoodIn wsX5_tollToDock wsX5_isSet := goodIn_r _ [7, 1, 8, 9, 6, 10, 72, 73, 74, 75, 76, 77, 78, 79, 80, 81, 82, 83, 84] (by decide +kernel) (by decide +kernel)
set_option maxRecDepth 20000 in
theorem gX5_tollToDock_X5_isSet : GoodIn wsX5_tollToDock (wsV RX5 92 RX5 yX5_isSet wsX5_isSet) := goodIn_app (goodIn_of _ (by decide +kernel)) ggX5_tollToDock_X5_isSet
set_option maxRecDepth 20000 in
theorem ggX5_tollToDock_X5_copies : GoodIn wsX5_tollToDock wsX5_copies := goodIn_r _ [13] (by decide +kernel) (by decide +kernel)
set_option maxRecDepth 20000 in
theorem gX5_tollToDock_X5_copies : GoodIn wsX5_tollToDock (va_wsS RX5 35 yX5_copies wsX5_copies) := goodIn_app (goodIn_of _ (by decide +kernel)) ggX5_tollToDock_X5_copies
set_option maxRecDepth 20000 in
theorem ggX5_tollToDock_X5_docks : GoodIn wsX5_tollToDock wsX5_docks := goodIn_r _ [17, 18, 19, 20, 21, 6, 22, 1, 23, 24, 25, 26, 27, 28, 29, 30, 31, 32, 33, 34, 35, 36, 37, 38, 39, 40, 41, 42, 43, 44, 45, 46, 47, 48, 49, 50, 51, 52, 53, 54, 55, 56, 57, 58, 59, 60, 61, 62, 63, 64, 65, 66, 67, 68, 69, 70, 71, 72, 73, 74, 75, 76, 77, 78, 79, 80, 81, 82, 83, 84] (by decide +kernel) (by decide +kernel)
set_option maxRecDepth 20000 in
theorem gX5_tollToDock_X5_docks : GoodIn wsX5_tollToDock (wsV RX5 109 RX5 yX5_docks wsX5_docks) := goodIn_app (goodIn_of _ (by decide +kernel)) ggX5_tollToDock_X5_docks
theorem dX5_tollToDock_0 : decode cX5_tollToDock 0 = .ok (.aload_n 0, 1) := by decide +kernel
theorem dX5_tollToDock_1 : decode cX5_tollToDock 1 = .ok (.iload_n 1, 1) := by decide +kernel
theorem dX5_tollToDock_2 : decode cX5_tollToDock 2 = .ok (.invokevirtual 92, 3) := by decide +kernel
theorem dX5_tollToDock_5 : decode cX5_tollToDock 5 = .ok (.ifCond .ne 5, 3) := by decide +kernel
theorem dX5_tollToDock_8 : decode cX5_tollToDock 8 = .ok (.iconst (-1), 1) := by decide +kernel
theorem dX5_tollToDock_9 : decode cX5_tollToDock 9 = .ok (.ireturn, 1) := by decide +kernel
theorem dX5_tollToDock_10 : decode cX5_tollToDock 10 = .ok (.aload_n 0, 1) := by decide +kernel
theorem dX5_tollToDock_11 : decode cX5_tollToDock 11 = .ok (.getfield 7, 3) := by decide +kernel
theorem dX5_tollToDock_14 : decode cX5_tollToDock 14 = .ok (.iconst 0, 1) := by decide +kernel
theorem dX5_tollToDock_15 : decode cX5_tollToDock 15 = .ok (.aload_n 0, 1) := by decide +kernel
theorem dX5_tollToDock_16 : decode cX5_tollToDock 16 = .ok (.getfield 19, 3) := by decide +kernel
theorem dX5_tollToDock_19 : decode cX5_tollToDock 19 = .ok (.iconst 0, 1) := by decide +kernel
theorem dX5_tollToDock_20 : decode cX5_tollToDock 20 = .ok (.invokestatic 35, 3) := by decide +kernel
theorem dX5_tollToDock_23 : decode cX5_tollToDock 23 = .ok (.aload_n 0, 1) := by decide +kernel
theorem dX5_tollToDock_24 : decode cX5_tollToDock 24 = .ok (.iload_n 1, 1) := by decide +kernel
theorem dX5_tollToDock_25 : decode cX5_tollToDock 25 = .ok (.invokevirtual 109, 3) := by decide +kernel
theorem dX5_tollToDock_28 : decode cX5_tollToDock 28 = .ok (.istore_n 2, 1) := by decide +kernel
theorem dX5_tollToDock_29 : decode cX5_tollToDock 29 = .ok (.aload_n 0, 1) := by decide +kernel
theorem dX5_tollToDock_30 : decode cX5_tollToDock 30 = .ok (.getfield 19, 3) := by decide +kernel
theorem dX5_tollToDock_33 : decode cX5_tollToDock 33 = .ok (.iconst 0, 1) := by decide +kernel
theorem dX5_tollToDock_34 : decode cX5_tollToDock 34 = .ok (.aload_n 0, 1) := by decide +kernel
theorem dX5_tollToDock_35 : decode cX5_tollToDock 35 = .ok (.getfield 7, 3) := by decide +kernel
theorem dX5_tollToDock_38 : decode cX5_tollToDock 38 = .ok (.iconst 0, 1) := by decide +kernel
theorem dX5_tollToDock_39 : decode cX5_tollToDock 39 = .ok (.invokestatic 35, 3) := by decide +kernel
theorem dX5_tollToDock_42 : decode cX5_tollToDock 42 = .ok (.iload_n 2, 1) := by decide +kernel
theorem dX5_tollToDock_43 : decode cX5_tollToDock 43 = .ok (.ireturn, 1) := by decide +kernel
set_option maxRecDepth 20000 in
theorem ggX5_overAll_X5_set : GoodIn wsX5_overAll wsX5_set := goodIn_r _ [6, 7, 8, 9, 5, 10, 1, 11, 12, 13, 14, 15, 16, 17, 18, 19, 20, 21, 22, 23, 24, 25, 26, 27, 28, 29, 30, 31, 32, 33, 34, 35, 36, 37, 38, 39, 40, 41, 42, 43, 44, 45, 46, 47, 48, 49, 50, 51, 52, 53, 54, 55, 56, 57, 58, 59, 60, 61, 62, 63, 64, 65, 66, 67, 68, 69, 70, 71, 72, 73, 74] (by decide +kernel) (by decide +kernel)
set_option maxRecDepth 20000 in
theorem gX5_overAll_X5_set : GoodIn wsX5_overAll (wsV RX5 171 RX5 yX5_set wsX5_set) := goodIn_app (goodIn_of _ (by decide +kernel)) ggX5_overAll_X5_set
set_option maxRecDepth 20000 in
theorem ggX5_overAll_X5_kindOf : GoodIn wsX5_overAll wsX5_kindOf := goodIn_r _ [33, 22, 23, 24, 5, 25, 1, 62, 63, 64, 65, 66, 67, 68, 69, 70, 71, 72, 73, 74] (by decide +kernel) (by decide +kernel)
set_option maxRecDepth 20000 in
theorem gX5_overAll_X5_kindOf : GoodIn wsX5_overAll (wsV RX5 62 RX5 yX5_kindOf wsX5_kindOf) := goodIn_app (goodIn_of _ (by decide +kernel)) ggX5_overAll_X5_kindOf
theorem dX5_overAll_0 : decode cX5_overAll 0 = .ok (.iconst 0, 1) := by decide +kernel
theorem dX5_overAll_1 : decode cX5_overAll 1 = .ok (.istore_n 2, 1) := by decide +kernel
theorem dX5_overAll_2 : decode cX5_overAll 2 = .ok (.iconst 0, 1) := by decide +kernel
theorem dX5_overAll_3 : decode cX5_overAll 3 = .ok (.istore_n 3, 1) := by decide +kernel
theorem dX5_overAll_4 : decode cX5_overAll 4 = .ok (.iload_n 3, 1) := by decide +kernel
theorem dX5_overAll_5 : decode cX5_overAll 5 = .ok (.aload_n 0, 1) := by decide +kernel
theorem dX5_overAll_6 : decode cX5_overAll 6 = .ok (.getfield 7, 3) := by decide +kernel
theorem dX5_overAll_9 : decode cX5_overAll 9 = .ok (.iconst 0, 1) := by decide +kernel
theorem dX5_overAll_10 : decode cX5_overAll 10 = .ok (.iaload, 1) := by decide +kernel
theorem dX5_overAll_11 : decode cX5_overAll 11 = .ok (.if_icmp .ge 65, 3) := by decide +kernel
theorem dX5_overAll_14 : decode cX5_overAll 14 = .ok (.iload_n 1, 1) := by decide +kernel
theorem dX5_overAll_15 : decode cX5_overAll 15 = .ok (.bipush 20, 2) := by decide +kernel
theorem dX5_overAll_17 : decode cX5_overAll 17 = .ok (.if_icmp .ge 15, 3) := by decide +kernel
theorem dX5_overAll_20 : decode cX5_overAll 20 = .ok (.iload_n 2, 1) := by decide +kernel
theorem dX5_overAll_21 : decode cX5_overAll 21 = .ok (.aload_n 0, 1) := by decide +kernel
theorem dX5_overAll_22 : decode cX5_overAll 22 = .ok (.iload_n 3, 1) := by decide +kernel
theorem dX5_overAll_23 : decode cX5_overAll 23 = .ok (.iload_n 1, 1) := by decide +kernel
theorem dX5_overAll_24 : decode cX5_overAll 24 = .ok (.invokevirtual 171, 3) := by decide +kernel
theorem dX5_overAll_27 : decode cX5_overAll 27 = .ok (.iadd, 1) := by decide +kernel
theorem dX5_overAll_28 : decode cX5_overAll 28 = .ok (.istore_n 2, 1) := by decide +kernel
theorem dX5_overAll_29 : decode cX5_overAll 29 = .ok (.goto 41, 3) := by decide +kernel
theorem dX5_overAll_32 : decode cX5_overAll 32 = .ok (.iconst 0, 1) := by decide +kernel
theorem dX5_overAll_33 : decode cX5_overAll 33 = .ok (.istore 4, 2) := by decide +kernel
theorem dX5_overAll_35 : decode cX5_overAll 35 = .ok (.iload 4, 2) := by decide +kernel
theorem dX5_overAll_37 : decode cX5_overAll 37 = .ok (.bipush 8, 2) := by decide +kernel
theorem dX5_overAll_39 : decode cX5_overAll 39 = .ok (.if_icmp .ge 31, 3) := by decide +kernel
theorem dX5_overAll_42 : decode cX5_overAll 42 = .ok (.iload_n 2, 1) := by decide +kernel
theorem dX5_overAll_43 : decode cX5_overAll 43 = .ok (.aload_n 0, 1) := by decide +kernel
theorem dX5_overAll_44 : decode cX5_overAll 44 = .ok (.iload_n 3, 1) := by decide +kernel
theorem dX5_overAll_45 : decode cX5_overAll 45 = .ok (.iload 4, 2) := by decide +kernel
theorem dX5_overAll_47 : decode cX5_overAll 47 = .ok (.invokevirtual 62, 3) := by decide +kernel
theorem dX5_overAll_50 : decode cX5_overAll 50 = .ok (.iload_n 1, 1) := by decide +kernel
theorem dX5_overAll_51 : decode cX5_overAll 51 = .ok (.bipush 20, 2) := by decide +kernel
theorem dX5_overAll_53 : decode cX5_overAll 53 = .ok (.isub, 1) := by decide +kernel
theorem dX5_overAll_54 : decode cX5_overAll 54 = .ok (.if_icmp .ne 7, 3) := by decide +kernel
theorem dX5_overAll_57 : decode cX5_overAll 57 = .ok (.iconst 1, 1) := by decide +kernel
theorem dX5_overAll_58 : decode cX5_overAll 58 = .ok (.goto 4, 3) := by decide +kernel
theorem dX5_overAll_61 : decode cX5_overAll 61 = .ok (.iconst 0, 1) := by decide +kernel
theorem dX5_overAll_62 : decode cX5_overAll 62 = .ok (.iadd, 1) := by decide +kernel
theorem dX5_overAll_63 : decode cX5_overAll 63 = .ok (.istore_n 2, 1) := by decide +kernel
theorem dX5_overAll_64 : decode cX5_overAll 64 = .ok (.iinc 4 1, 3) := by decide +kernel
theorem dX5_overAll_67 : decode cX5_overAll 67 = .ok (.goto (-32), 3) := by decide +kernel
theorem dX5_overAll_70 : decode cX5_overAll 70 = .ok (.iinc 3 1, 3) := by decide +kernel
theorem dX5_overAll_73 : decode cX5_overAll 73 = .ok (.goto (-69), 3) := by decide +kernel
theorem dX5_overAll_76 : decode cX5_overAll 76 = .ok (.iload_n 2, 1) := by decide +kernel
theorem dX5_overAll_77 : decode cX5_overAll 77 = .ok (.ireturn, 1) := by decide +kernel
set_option maxRecDepth 20000 in
theorem ggX5_different_X5_setsWith : GoodIn wsX5_different wsX5_setsWith := goodIn_r _ [5, 6, 7, 8, 9, 4, 10, 11, 12, 13, 14, 15, 16, 17, 18, 19, 20, 21, 22, 23, 24, 25, 26, 27] (by decide +kernel) (by decide +kernel)
set_option maxRecDepth 20000 in
theorem gX5_different_X5_setsWith : GoodIn wsX5_different (wsV RX5 168 RX5 yX5_setsWith wsX5_setsWith) := goodIn_app (goodIn_of _ (by decide +kernel)) ggX5_different_X5_setsWith
theorem dX5_different_0 : decode cX5_different 0 = .ok (.iconst 0, 1) := by decide +kernel
theorem dX5_different_1 : decode cX5_different 1 = .ok (.istore_n 1, 1) := by decide +kernel
theorem dX5_different_2 : decode cX5_different 2 = .ok (.iconst 0, 1) := by decide +kernel
theorem dX5_different_3 : decode cX5_different 3 = .ok (.istore_n 2, 1) := by decide +kernel
theorem dX5_different_4 : decode cX5_different 4 = .ok (.iload_n 2, 1) := by decide +kernel
theorem dX5_different_5 : decode cX5_different 5 = .ok (.sipush 2048, 3) := by decide +kernel
theorem dX5_different_8 : decode cX5_different 8 = .ok (.if_icmp .ge 25, 3) := by decide +kernel
theorem dX5_different_11 : decode cX5_different 11 = .ok (.iload_n 1, 1) := by decide +kernel
theorem dX5_different_12 : decode cX5_different 12 = .ok (.aload_n 0, 1) := by decide +kernel
theorem dX5_different_13 : decode cX5_different 13 = .ok (.iload_n 2, 1) := by decide +kernel
theorem dX5_different_14 : decode cX5_different 14 = .ok (.invokevirtual 168, 3) := by decide +kernel
theorem dX5_different_17 : decode cX5_different 17 = .ok (.ifCond .le 7, 3) := by decide +kernel
theorem dX5_different_20 : decode cX5_different 20 = .ok (.iconst 1, 1) := by decide +kernel
theorem dX5_different_21 : decode cX5_different 21 = .ok (.goto 4, 3) := by decide +kernel
theorem dX5_different_24 : decode cX5_different 24 = .ok (.iconst 0, 1) := by decide +kernel
theorem dX5_different_25 : decode cX5_different 25 = .ok (.iadd, 1) := by decide +kernel
theorem dX5_different_26 : decode cX5_different 26 = .ok (.istore_n 1, 1) := by decide +kernel
theorem dX5_different_27 : decode cX5_different 27 = .ok (.iinc 2 1, 3) := by decide +kernel
theorem dX5_different_30 : decode cX5_different 30 = .ok (.goto (-26), 3) := by decide +kernel
theorem dX5_different_33 : decode cX5_different 33 = .ok (.iload_n 1, 1) := by decide +kernel
theorem dX5_different_34 : decode cX5_different 34 = .ok (.ireturn, 1) := by decide +kernel
set_option maxRecDepth 20000 in
theorem ggX5_count_X5_overAll : GoodIn wsX5_count wsX5_overAll := goodIn_r _ [8, 1, 9, 10, 11, 7, 12, 13, 14, 15, 16, 17, 18, 19, 20, 21, 22, 23, 24, 25, 26, 27, 28, 29, 30, 31, 32, 33, 34, 35, 36, 37, 38, 39, 40, 41, 42, 43, 44, 45, 46, 47, 48, 49, 50, 51, 52, 53, 54, 55, 56, 57, 58, 59, 60, 61, 62, 63, 64, 65, 66, 67, 76, 77, 78, 79, 80, 81, 82, 83, 84, 85, 86, 87, 88] (by decide +kernel) (by decide +kernel)
set_option maxRecDepth 20000 in
theorem gX5_count_X5_overAll : GoodIn wsX5_count (wsV RX5 174 RX5 yX5_overAll wsX5_overAll) := goodIn_app (goodIn_of _ (by decide +kernel)) ggX5_count_X5_overAll
set_option maxRecDepth 20000 in
theorem ggX5_count_X5_different : GoodIn wsX5_count wsX5_different := goodIn_r _ [71, 72, 73, 74, 7, 75, 1, 24, 25, 26, 27, 28, 29, 30, 31, 76, 77, 78, 79, 80, 81, 82, 83, 84, 85, 86, 87, 88] (by decide +kernel) (by decide +kernel)
set_option maxRecDepth 20000 in
theorem gX5_count_X5_different : GoodIn wsX5_count (wsV RX5 177 RX5 yX5_different wsX5_different) := goodIn_app (goodIn_of _ (by decide +kernel)) ggX5_count_X5_different
theorem dX5_count_0 : decode cX5_count 0 = .ok (.iload_n 1, 1) := by decide +kernel
theorem dX5_count_1 : decode cX5_count 1 = .ok (.tableswitch 114 0 10 #[59, 66, 72, 72, 72, 81, 87, 93, 98, 104, 109], 59) := by decide +kernel
theorem dX5_count_60 : decode cX5_count 60 = .ok (.aload_n 0, 1) := by decide +kernel
theorem dX5_count_61 : decode cX5_count 61 = .ok (.getfield 7, 3) := by decide +kernel
theorem dX5_count_64 : decode cX5_count 64 = .ok (.iconst 0, 1) := by decide +kernel
theorem dX5_count_65 : decode cX5_count 65 = .ok (.iaload, 1) := by decide +kernel
theorem dX5_count_66 : decode cX5_count 66 = .ok (.ireturn, 1) := by decide +kernel
theorem dX5_count_67 : decode cX5_count 67 = .ok (.aload_n 0, 1) := by decide +kernel
theorem dX5_count_68 : decode cX5_count 68 = .ok (.iconst 4, 1) := by decide +kernel
theorem dX5_count_69 : decode cX5_count 69 = .ok (.invokevirtual 174, 3) := by decide +kernel
theorem dX5_count_72 : decode cX5_count 72 = .ok (.ireturn, 1) := by decide +kernel
theorem dX5_count_73 : decode cX5_count 73 = .ok (.aload_n 0, 1) := by decide +kernel
theorem dX5_count_74 : decode cX5_count 74 = .ok (.bipush 18, 2) := by decide +kernel
theorem dX5_count_76 : decode cX5_count 76 = .ok (.iload_n 1, 1) := by decide +kernel
theorem dX5_count_77 : decode cX5_count 77 = .ok (.iadd, 1) := by decide +kernel
theorem dX5_count_78 : decode cX5_count 78 = .ok (.invokevirtual 174, 3) := by decide +kernel
theorem dX5_count_81 : decode cX5_count 81 = .ok (.ireturn, 1) := by decide +kernel
theorem dX5_count_82 : decode cX5_count 82 = .ok (.aload_n 0, 1) := by decide +kernel
theorem dX5_count_83 : decode cX5_count 83 = .ok (.iconst 2, 1) := by decide +kernel
theorem dX5_count_84 : decode cX5_count 84 = .ok (.invokevirtual 174, 3) := by decide +kernel
theorem dX5_count_87 : decode cX5_count 87 = .ok (.ireturn, 1) := by decide +kernel
theorem dX5_count_88 : decode cX5_count 88 = .ok (.aload_n 0, 1) := by decide +kernel
theorem dX5_count_89 : decode cX5_count 89 = .ok (.iconst 0, 1) := by decide +kernel
theorem dX5_count_90 : decode cX5_count 90 = .ok (.invokevirtual 174, 3) := by decide +kernel
theorem dX5_count_93 : decode cX5_count 93 = .ok (.ireturn, 1) := by decide +kernel
theorem dX5_count_94 : decode cX5_count 94 = .ok (.aload_n 0, 1) := by decide +kernel
theorem dX5_count_95 : decode cX5_count 95 = .ok (.invokevirtual 177, 3) := by decide +kernel
theorem dX5_count_98 : decode cX5_count 98 = .ok (.ireturn, 1) := by decide +kernel
theorem dX5_count_99 : decode cX5_count 99 = .ok (.aload_n 0, 1) := by decide +kernel
theorem dX5_count_100 : decode cX5_count 100 = .ok (.iconst 5, 1) := by decide +kernel
theorem dX5_count_101 : decode cX5_count 101 = .ok (.invokevirtual 174, 3) := by decide +kernel
theorem dX5_count_104 : decode cX5_count 104 = .ok (.ireturn, 1) := by decide +kernel
theorem dX5_count_105 : decode cX5_count 105 = .ok (.aload_n 0, 1) := by decide +kernel
theorem dX5_count_106 : decode cX5_count 106 = .ok (.getfield 31, 3) := by decide +kernel
theorem dX5_count_109 : decode cX5_count 109 = .ok (.ireturn, 1) := by decide +kernel
theorem dX5_count_110 : decode cX5_count 110 = .ok (.aload_n 0, 1) := by decide +kernel
theorem dX5_count_111 : decode cX5_count 111 = .ok (.getfield 136, 3) := by decide +kernel
theorem dX5_count_114 : decode cX5_count 114 = .ok (.ireturn, 1) := by decide +kernel
theorem dX5_count_115 : decode cX5_count 115 = .ok (.bipush (-2), 2) := by decide +kernel
theorem dX5_count_117 : decode cX5_count 117 = .ok (.ireturn, 1) := by decide +kernel
