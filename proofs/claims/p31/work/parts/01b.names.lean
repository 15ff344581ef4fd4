theorem dX0_init_0 : decode cX0_init 0 = .ok (.aload_n 0, 1) := by decide +kernel
theorem dX0_init_1 : decode cX0_init 1 = .ok (.invokespecial 3, 3) := by decide +kernel
theorem dX0_init_4 : decode cX0_init 4 = .ok (.aload_n 0, 1) := by decide +kernel
theorem dX0_init_5 : decode cX0_init 5 = .ok (.bipush 32, 2) := by decide +kernel
theorem dX0_init_7 : decode cX0_init 7 = .ok (.newarray .long, 2) := by decide +kernel
theorem dX0_init_9 : decode cX0_init 9 = .ok (.putfield 9, 3) := by decide +kernel
theorem dX0_init_12 : decode cX0_init 12 = .ok (.aload_n 0, 1) := by decide +kernel
theorem dX0_init_13 : decode cX0_init 13 = .ok (.bipush 8, 2) := by decide +kernel
theorem dX0_init_15 : decode cX0_init 15 = .ok (.newarray .int, 2) := by decide +kernel
theorem dX0_init_17 : decode cX0_init 17 = .ok (.putfield 15, 3) := by decide +kernel
theorem dX0_init_20 : decode cX0_init 20 = .ok (.aload_n 0, 1) := by decide +kernel
theorem dX0_init_21 : decode cX0_init 21 = .ok (.bipush 8, 2) := by decide +kernel
theorem dX0_init_23 : decode cX0_init 23 = .ok (.newarray .int, 2) := by decide +kernel
theorem dX0_init_25 : decode cX0_init 25 = .ok (.putfield 19, 3) := by decide +kernel
theorem dX0_init_28 : decode cX0_init 28 = .ok (.aload_n 0, 1) := by decide +kernel
theorem dX0_init_29 : decode cX0_init 29 = .ok (.bipush 8, 2) := by decide +kernel
theorem dX0_init_31 : decode cX0_init 31 = .ok (.newarray .int, 2) := by decide +kernel
theorem dX0_init_33 : decode cX0_init 33 = .ok (.putfield 22, 3) := by decide +kernel
theorem dX0_init_36 : decode cX0_init 36 = .ok (.return_, 1) := by decide +kernel
set_option maxRecDepth 20000 in
theorem ggX0_begin_X0_clearNumbers : GoodIn wsX0_begin wsX0_clearNumbers := goodIn_r _ [8, 9, 10, 11, 12, 13, 14, 15, 16, 17, 18, 19, 20, 21, 22, 23, 24, 25, 26] (by decide +kernel) (by decide +kernel)
set_option maxRecDepth 20000 in
theorem gX0_begin_X0_clearNumbers : GoodIn wsX0_begin (wsV RX0 25 RX0 yX0_clearNumbers wsX0_clearNumbers) := goodIn_app (goodIn_of _ (by decide +kernel)) ggX0_begin_X0_clearNumbers
theorem dX0_begin_0 : decode cX0_begin 0 = .ok (.aload_n 0, 1) := by decide +kernel
theorem dX0_begin_1 : decode cX0_begin 1 = .ok (.invokevirtual 25, 3) := by decide +kernel
theorem dX0_begin_4 : decode cX0_begin 4 = .ok (.aload_n 0, 1) := by decide +kernel
theorem dX0_begin_5 : decode cX0_begin 5 = .ok (.iload_n 1, 1) := by decide +kernel
theorem dX0_begin_6 : decode cX0_begin 6 = .ok (.putfield 28, 3) := by decide +kernel
theorem dX0_begin_9 : decode cX0_begin 9 = .ok (.aload_n 0, 1) := by decide +kernel
theorem dX0_begin_10 : decode cX0_begin 10 = .ok (.iconst 0, 1) := by decide +kernel
theorem dX0_begin_11 : decode cX0_begin 11 = .ok (.putfield 32, 3) := by decide +kernel
theorem dX0_begin_14 : decode cX0_begin 14 = .ok (.aload_n 0, 1) := by decide +kernel
theorem dX0_begin_15 : decode cX0_begin 15 = .ok (.iconst 0, 1) := by decide +kernel
theorem dX0_begin_16 : decode cX0_begin 16 = .ok (.putfield 35, 3) := by decide +kernel
theorem dX0_begin_19 : decode cX0_begin 19 = .ok (.return_, 1) := by decide +kernel
set_option maxRecDepth 20000 in
theorem ggX0_clearNumbers_J7_fill_d0a16 : GoodIn wsX0_clearNumbers wsJ7_fill_d0a16 := goodIn_r _ [8] (by decide +kernel) (by decide +kernel)
set_option maxRecDepth 20000 in
theorem gX0_clearNumbers_J7_fill_d0a16 : GoodIn wsX0_clearNumbers (va_wsS RX0 39 yJ7_fill_d0a16 wsJ7_fill_d0a16) := goodIn_app (goodIn_of _ (by decide +kernel)) ggX0_clearNumbers_J7_fill_d0a16
set_option maxRecDepth 20000 in
theorem ggX0_clearNumbers_J7_fill_53178 : GoodIn wsX0_clearNumbers wsJ7_fill_53178 := goodIn_r _ [11] (by decide +kernel) (by decide +kernel)
set_option maxRecDepth 20000 in
theorem gX0_clearNumbers_J7_fill_53178 : GoodIn wsX0_clearNumbers (va_wsS RX0 45 yJ7_fill_53178 wsJ7_fill_53178) := goodIn_app (goodIn_of _ (by decide +kernel)) ggX0_clearNumbers_J7_fill_53178
theorem dX0_clearNumbers_0 : decode cX0_clearNumbers 0 = .ok (.aload_n 0, 1) := by decide +kernel
theorem dX0_clearNumbers_1 : decode cX0_clearNumbers 1 = .ok (.getfield 9, 3) := by decide +kernel
theorem dX0_clearNumbers_4 : decode cX0_clearNumbers 4 = .ok (.lconst 0, 1) := by decide +kernel
theorem dX0_clearNumbers_5 : decode cX0_clearNumbers 5 = .ok (.invokestatic 39, 3) := by decide +kernel
theorem dX0_clearNumbers_8 : decode cX0_clearNumbers 8 = .ok (.aload_n 0, 1) := by decide +kernel
theorem dX0_clearNumbers_9 : decode cX0_clearNumbers 9 = .ok (.getfield 15, 3) := by decide +kernel
theorem dX0_clearNumbers_12 : decode cX0_clearNumbers 12 = .ok (.iconst 0, 1) := by decide +kernel
theorem dX0_clearNumbers_13 : decode cX0_clearNumbers 13 = .ok (.invokestatic 45, 3) := by decide +kernel
theorem dX0_clearNumbers_16 : decode cX0_clearNumbers 16 = .ok (.aload_n 0, 1) := by decide +kernel
theorem dX0_clearNumbers_17 : decode cX0_clearNumbers 17 = .ok (.getfield 19, 3) := by decide +kernel
theorem dX0_clearNumbers_20 : decode cX0_clearNumbers 20 = .ok (.iconst 0, 1) := by decide +kernel
theorem dX0_clearNumbers_21 : decode cX0_clearNumbers 21 = .ok (.invokestatic 45, 3) := by decide +kernel
theorem dX0_clearNumbers_24 : decode cX0_clearNumbers 24 = .ok (.aload_n 0, 1) := by decide +kernel
theorem dX0_clearNumbers_25 : decode cX0_clearNumbers 25 = .ok (.getfield 22, 3) := by decide +kernel
theorem dX0_clearNumbers_28 : decode cX0_clearNumbers 28 = .ok (.iconst 0, 1) := by decide +kernel
theorem dX0_clearNumbers_29 : decode cX0_clearNumbers 29 = .ok (.invokestatic 45, 3) := by decide +kernel
theorem dX0_clearNumbers_32 : decode cX0_clearNumbers 32 = .ok (.return_, 1) := by decide +kernel
theorem dX0_copyFrom_0 : decode cX0_copyFrom 0 = .ok (.aload_n 1, 1) := by decide +kernel
theorem dX0_copyFrom_1 : decode cX0_copyFrom 1 = .ok (.getfield 9, 3) := by decide +kernel
theorem dX0_copyFrom_4 : decode cX0_copyFrom 4 = .ok (.iconst 0, 1) := by decide +kernel
theorem dX0_copyFrom_5 : decode cX0_copyFrom 5 = .ok (.aload_n 0, 1) := by decide +kernel
theorem dX0_copyFrom_6 : decode cX0_copyFrom 6 = .ok (.getfield 9, 3) := by decide +kernel
theorem dX0_copyFrom_9 : decode cX0_copyFrom 9 = .ok (.iconst 0, 1) := by decide +kernel
theorem dX0_copyFrom_10 : decode cX0_copyFrom 10 = .ok (.bipush 32, 2) := by decide +kernel
theorem dX0_copyFrom_12 : decode cX0_copyFrom 12 = .ok (.invokestatic 48, 3) := by decide +kernel
theorem dX0_copyFrom_15 : decode cX0_copyFrom 15 = .ok (.aload_n 1, 1) := by decide +kernel
theorem dX0_copyFrom_16 : decode cX0_copyFrom 16 = .ok (.getfield 15, 3) := by decide +kernel
theorem dX0_copyFrom_19 : decode cX0_copyFrom 19 = .ok (.iconst 0, 1) := by decide +kernel
theorem dX0_copyFrom_20 : decode cX0_copyFrom 20 = .ok (.aload_n 0, 1) := by decide +kernel
theorem dX0_copyFrom_21 : decode cX0_copyFrom 21 = .ok (.getfield 15, 3) := by decide +kernel
theorem dX0_copyFrom_24 : decode cX0_copyFrom 24 = .ok (.iconst 0, 1) := by decide +kernel
theorem dX0_copyFrom_25 : decode cX0_copyFrom 25 = .ok (.bipush 8, 2) := by decide +kernel
theorem dX0_copyFrom_27 : decode cX0_copyFrom 27 = .ok (.invokestatic 48, 3) := by decide +kernel
theorem dX0_copyFrom_30 : decode cX0_copyFrom 30 = .ok (.aload_n 1, 1) := by decide +kernel
theorem dX0_copyFrom_31 : decode cX0_copyFrom 31 = .ok (.getfield 19, 3) := by decide +kernel
theorem dX0_copyFrom_34 : decode cX0_copyFrom 34 = .ok (.iconst 0, 1) := by decide +kernel
theorem dX0_copyFrom_35 : decode cX0_copyFrom 35 = .ok (.aload_n 0, 1) := by decide +kernel
theorem dX0_copyFrom_36 : decode cX0_copyFrom 36 = .ok (.getfield 19, 3) := by decide +kernel
theorem dX0_copyFrom_39 : decode cX0_copyFrom 39 = .ok (.iconst 0, 1) := by decide +kernel
theorem dX0_copyFrom_40 : decode cX0_copyFrom 40 = .ok (.bipush 8, 2) := by decide +kernel
theorem dX0_copyFrom_42 : decode cX0_copyFrom 42 = .ok (.invokestatic 48, 3) := by decide +kernel
theorem dX0_copyFrom_45 : decode cX0_copyFrom 45 = .ok (.aload_n 1, 1) := by decide +kernel
theorem dX0_copyFrom_46 : decode cX0_copyFrom 46 = .ok (.getfield 22, 3) := by decide +kernel
theorem dX0_copyFrom_49 : decode cX0_copyFrom 49 = .ok (.iconst 0, 1) := by decide +kernel
theorem dX0_copyFrom_50 : decode cX0_copyFrom 50 = .ok (.aload_n 0, 1) := by decide +kernel
theorem dX0_copyFrom_51 : decode cX0_copyFrom 51 = .ok (.getfield 22, 3) := by decide +kernel
theorem dX0_copyFrom_54 : decode cX0_copyFrom 54 = .ok (.iconst 0, 1) := by decide +kernel
theorem dX0_copyFrom_55 : decode cX0_copyFrom 55 = .ok (.bipush 8, 2) := by decide +kernel
theorem dX0_copyFrom_57 : decode cX0_copyFrom 57 = .ok (.invokestatic 48, 3) := by decide +kernel
theorem dX0_copyFrom_60 : decode cX0_copyFrom 60 = .ok (.aload_n 0, 1) := by decide +kernel
theorem dX0_copyFrom_61 : decode cX0_copyFrom 61 = .ok (.aload_n 1, 1) := by decide +kernel
theorem dX0_copyFrom_62 : decode cX0_copyFrom 62 = .ok (.getfield 28, 3) := by decide +kernel
theorem dX0_copyFrom_65 : decode cX0_copyFrom 65 = .ok (.putfield 28, 3) := by decide +kernel
theorem dX0_copyFrom_68 : decode cX0_copyFrom 68 = .ok (.aload_n 0, 1) := by decide +kernel
theorem dX0_copyFrom_69 : decode cX0_copyFrom 69 = .ok (.aload_n 1, 1) := by decide +kernel
theorem dX0_copyFrom_70 : decode cX0_copyFrom 70 = .ok (.getfield 32, 3) := by decide +kernel
theorem dX0_copyFrom_73 : decode cX0_copyFrom 73 = .ok (.putfield 32, 3) := by decide +kernel
theorem dX0_copyFrom_76 : decode cX0_copyFrom 76 = .ok (.aload_n 0, 1) := by decide +kernel
theorem dX0_copyFrom_77 : decode cX0_copyFrom 77 = .ok (.aload_n 1, 1) := by decide +kernel
theorem dX0_copyFrom_78 : decode cX0_copyFrom 78 = .ok (.getfield 35, 3) := by decide +kernel
theorem dX0_copyFrom_81 : decode cX0_copyFrom 81 = .ok (.putfield 35, 3) := by decide +kernel
theorem dX0_copyFrom_84 : decode cX0_copyFrom 84 = .ok (.return_, 1) := by decide +kernel
set_option maxRecDepth 20000 in
theorem ggX0_holds_X4_isNumber : GoodIn wsX0_holds wsX4_isNumber := goodIn_r _ [4] (by decide +kernel) (by decide +kernel)
set_option maxRecDepth 20000 in
theorem gX0_holds_X4_isNumber_n54 : GoodIn wsX0_holds (wsX4_isNumber) := ggX0_holds_X4_isNumber
theorem dX0_holds_0 : decode cX0_holds 0 = .ok (.iload_n 1, 1) := by decide +kernel
theorem dX0_holds_1 : decode cX0_holds 1 = .ok (.invokestatic 54, 3) := by decide +kernel
theorem dX0_holds_4 : decode cX0_holds 4 = .ok (.ifCond .ne 5, 3) := by decide +kernel
theorem dX0_holds_7 : decode cX0_holds 7 = .ok (.iconst 0, 1) := by decide +kernel
theorem dX0_holds_8 : decode cX0_holds 8 = .ok (.ireturn, 1) := by decide +kernel
theorem dX0_holds_9 : decode cX0_holds 9 = .ok (.aload_n 0, 1) := by decide +kernel
theorem dX0_holds_10 : decode cX0_holds 10 = .ok (.getfield 9, 3) := by decide +kernel
theorem dX0_holds_13 : decode cX0_holds 13 = .ok (.iload_n 1, 1) := by decide +kernel
theorem dX0_holds_14 : decode cX0_holds 14 = .ok (.bipush 64, 2) := by decide +kernel
theorem dX0_holds_16 : decode cX0_holds 16 = .ok (.idiv, 1) := by decide +kernel
theorem dX0_holds_17 : decode cX0_holds 17 = .ok (.laload, 1) := by decide +kernel
theorem dX0_holds_18 : decode cX0_holds 18 = .ok (.iload_n 1, 1) := by decide +kernel
theorem dX0_holds_19 : decode cX0_holds 19 = .ok (.bipush 64, 2) := by decide +kernel
theorem dX0_holds_21 : decode cX0_holds 21 = .ok (.irem, 1) := by decide +kernel
theorem dX0_holds_22 : decode cX0_holds 22 = .ok (.lushr, 1) := by decide +kernel
theorem dX0_holds_23 : decode cX0_holds 23 = .ok (.lconst 1, 1) := by decide +kernel
theorem dX0_holds_24 : decode cX0_holds 24 = .ok (.land, 1) := by decide +kernel
theorem dX0_holds_25 : decode cX0_holds 25 = .ok (.lconst 0, 1) := by decide +kernel
theorem dX0_holds_26 : decode cX0_holds 26 = .ok (.lcmp, 1) := by decide +kernel
theorem dX0_holds_27 : decode cX0_holds 27 = .ok (.ifCond .eq 7, 3) := by decide +kernel
theorem dX0_holds_30 : decode cX0_holds 30 = .ok (.iconst 1, 1) := by decide +kernel
theorem dX0_holds_31 : decode cX0_holds 31 = .ok (.goto 4, 3) := by decide +kernel
theorem dX0_holds_34 : decode cX0_holds 34 = .ok (.iconst 0, 1) := by decide +kernel
theorem dX0_holds_35 : decode cX0_holds 35 = .ok (.ireturn, 1) := by decide +kernel
set_option maxRecDepth 20000 in
theorem ggX0_flip_X4_isNumber : GoodIn wsX0_flip wsX4_isNumber := goodIn_r _ [6] (by decide +kernel) (by decide +kernel)
set_option maxRecDepth 20000 in
theorem gX0_flip_X4_isNumber_n54 : GoodIn wsX0_flip (wsX4_isNumber) := ggX0_flip_X4_isNumber
set_option maxRecDepth 20000 in
theorem ggX0_flip_X0_holds : GoodIn wsX0_flip wsX0_holds := goodIn_r _ [11, 1, 4, 5, 6, 16, 17, 18, 19, 20, 21, 22] (by decide +kernel) (by decide +kernel)
set_option maxRecDepth 20000 in
theorem gX0_flip_X0_holds : GoodIn wsX0_flip (wsV RX0 58 RX0 yX0_holds wsX0_holds) := goodIn_app (goodIn_of _ (by decide +kernel)) ggX0_flip_X0_holds
set_option maxRecDepth 20000 in
theorem ggX0_flip_X0_neighboursInBay : GoodIn wsX0_flip wsX0_neighboursInBay := goodIn_r _ [15, 7, 8, 9, 10, 11, 1, 4, 5, 6, 16, 17, 18, 19, 20, 21, 22] (by decide +kernel) (by decide +kernel)
set_option maxRecDepth 20000 in
theorem gX0_flip_X0_neighboursInBay : GoodIn wsX0_flip (wsV RX0 61 RX0 yX0_neighboursInBay wsX0_neighboursInBay) := goodIn_app (goodIn_of _ (by decide +kernel)) ggX0_flip_X0_neighboursInBay
theorem dX0_flip_0 : decode cX0_flip 0 = .ok (.iload_n 1, 1) := by decide +kernel
theorem dX0_flip_1 : decode cX0_flip 1 = .ok (.invokestatic 54, 3) := by decide +kernel
theorem dX0_flip_4 : decode cX0_flip 4 = .ok (.ifCond .ne 4, 3) := by decide +kernel
theorem dX0_flip_7 : decode cX0_flip 7 = .ok (.return_, 1) := by decide +kernel
theorem dX0_flip_8 : decode cX0_flip 8 = .ok (.iload_n 1, 1) := by decide +kernel
theorem dX0_flip_9 : decode cX0_flip 9 = .ok (.sipush 256, 3) := by decide +kernel
theorem dX0_flip_12 : decode cX0_flip 12 = .ok (.idiv, 1) := by decide +kernel
theorem dX0_flip_13 : decode cX0_flip 13 = .ok (.istore_n 2, 1) := by decide +kernel
theorem dX0_flip_14 : decode cX0_flip 14 = .ok (.aload_n 0, 1) := by decide +kernel
theorem dX0_flip_15 : decode cX0_flip 15 = .ok (.iload_n 1, 1) := by decide +kernel
theorem dX0_flip_16 : decode cX0_flip 16 = .ok (.invokevirtual 58, 3) := by decide +kernel
theorem dX0_flip_19 : decode cX0_flip 19 = .ok (.ifCond .eq 7, 3) := by decide +kernel
theorem dX0_flip_22 : decode cX0_flip 22 = .ok (.iconst (-1), 1) := by decide +kernel
theorem dX0_flip_23 : decode cX0_flip 23 = .ok (.goto 4, 3) := by decide +kernel
theorem dX0_flip_26 : decode cX0_flip 26 = .ok (.iconst 1, 1) := by decide +kernel
theorem dX0_flip_27 : decode cX0_flip 27 = .ok (.istore_n 3, 1) := by decide +kernel
theorem dX0_flip_28 : decode cX0_flip 28 = .ok (.aload_n 0, 1) := by decide +kernel
theorem dX0_flip_29 : decode cX0_flip 29 = .ok (.getfield 9, 3) := by decide +kernel
theorem dX0_flip_32 : decode cX0_flip 32 = .ok (.iload_n 1, 1) := by decide +kernel
theorem dX0_flip_33 : decode cX0_flip 33 = .ok (.bipush 64, 2) := by decide +kernel
theorem dX0_flip_35 : decode cX0_flip 35 = .ok (.idiv, 1) := by decide +kernel
theorem dX0_flip_36 : decode cX0_flip 36 = .ok (.dup2, 1) := by decide +kernel
theorem dX0_flip_37 : decode cX0_flip 37 = .ok (.laload, 1) := by decide +kernel
theorem dX0_flip_38 : decode cX0_flip 38 = .ok (.lconst 1, 1) := by decide +kernel
theorem dX0_flip_39 : decode cX0_flip 39 = .ok (.iload_n 1, 1) := by decide +kernel
theorem dX0_flip_40 : decode cX0_flip 40 = .ok (.bipush 64, 2) := by decide +kernel
theorem dX0_flip_42 : decode cX0_flip 42 = .ok (.irem, 1) := by decide +kernel
theorem dX0_flip_43 : decode cX0_flip 43 = .ok (.lshl, 1) := by decide +kernel
theorem dX0_flip_44 : decode cX0_flip 44 = .ok (.lxor, 1) := by decide +kernel
theorem dX0_flip_45 : decode cX0_flip 45 = .ok (.lastore, 1) := by decide +kernel
theorem dX0_flip_46 : decode cX0_flip 46 = .ok (.aload_n 0, 1) := by decide +kernel
theorem dX0_flip_47 : decode cX0_flip 47 = .ok (.getfield 19, 3) := by decide +kernel
theorem dX0_flip_50 : decode cX0_flip 50 = .ok (.iload_n 2, 1) := by decide +kernel
theorem dX0_flip_51 : decode cX0_flip 51 = .ok (.dup2, 1) := by decide +kernel
theorem dX0_flip_52 : decode cX0_flip 52 = .ok (.iaload, 1) := by decide +kernel
theorem dX0_flip_53 : decode cX0_flip 53 = .ok (.iload_n 3, 1) := by decide +kernel
theorem dX0_flip_54 : decode cX0_flip 54 = .ok (.iadd, 1) := by decide +kernel
theorem dX0_flip_55 : decode cX0_flip 55 = .ok (.iastore, 1) := by decide +kernel
theorem dX0_flip_56 : decode cX0_flip 56 = .ok (.aload_n 0, 1) := by decide +kernel
theorem dX0_flip_57 : decode cX0_flip 57 = .ok (.getfield 22, 3) := by decide +kernel
theorem dX0_flip_60 : decode cX0_flip 60 = .ok (.iload_n 2, 1) := by decide +kernel
theorem dX0_flip_61 : decode cX0_flip 61 = .ok (.dup2, 1) := by decide +kernel
theorem dX0_flip_62 : decode cX0_flip 62 = .ok (.iaload, 1) := by decide +kernel
theorem dX0_flip_63 : decode cX0_flip 63 = .ok (.iload_n 3, 1) := by decide +kernel
theorem dX0_flip_64 : decode cX0_flip 64 = .ok (.iconst 1, 1) := by decide +kernel
theorem dX0_flip_65 : decode cX0_flip 65 = .ok (.aload_n 0, 1) := by decide +kernel
theorem dX0_flip_66 : decode cX0_flip 66 = .ok (.iload_n 1, 1) := by decide +kernel
theorem dX0_flip_67 : decode cX0_flip 67 = .ok (.invokevirtual 61, 3) := by decide +kernel
theorem dX0_flip_70 : decode cX0_flip 70 = .ok (.isub, 1) := by decide +kernel
theorem dX0_flip_71 : decode cX0_flip 71 = .ok (.imul, 1) := by decide +kernel
theorem dX0_flip_72 : decode cX0_flip 72 = .ok (.iadd, 1) := by decide +kernel
theorem dX0_flip_73 : decode cX0_flip 73 = .ok (.iastore, 1) := by decide +kernel
theorem dX0_flip_74 : decode cX0_flip 74 = .ok (.return_, 1) := by decide +kernel
set_option maxRecDepth 20000 in
theorem ggX0_neighboursInBay_X0_holds : GoodIn wsX0_neighboursInBay wsX0_holds := goodIn_r _ [5, 6, 7, 8, 9, 10, 11, 12, 13, 14, 15, 16] (by decide +kernel) (by decide +kernel)
set_option maxRecDepth 20000 in
theorem gX0_neighboursInBay_X0_holds : GoodIn wsX0_neighboursInBay (wsV RX0 58 RX0 yX0_holds wsX0_holds) := goodIn_app (goodIn_of _ (by decide +kernel)) ggX0_neighboursInBay_X0_holds
theorem dX0_neighboursInBay_0 : decode cX0_neighboursInBay 0 = .ok (.iload_n 1, 1) := by decide +kernel
theorem dX0_neighboursInBay_1 : decode cX0_neighboursInBay 1 = .ok (.sipush 256, 3) := by decide +kernel
theorem dX0_neighboursInBay_4 : decode cX0_neighboursInBay 4 = .ok (.irem, 1) := by decide +kernel
theorem dX0_neighboursInBay_5 : decode cX0_neighboursInBay 5 = .ok (.istore_n 2, 1) := by decide +kernel
theorem dX0_neighboursInBay_6 : decode cX0_neighboursInBay 6 = .ok (.iconst 0, 1) := by decide +kernel
theorem dX0_neighboursInBay_7 : decode cX0_neighboursInBay 7 = .ok (.istore_n 3, 1) := by decide +kernel
theorem dX0_neighboursInBay_8 : decode cX0_neighboursInBay 8 = .ok (.iload_n 2, 1) := by decide +kernel
theorem dX0_neighboursInBay_9 : decode cX0_neighboursInBay 9 = .ok (.ifCond .le 16, 3) := by decide +kernel
theorem dX0_neighboursInBay_12 : decode cX0_neighboursInBay 12 = .ok (.aload_n 0, 1) := by decide +kernel
theorem dX0_neighboursInBay_13 : decode cX0_neighboursInBay 13 = .ok (.iload_n 1, 1) := by decide +kernel
theorem dX0_neighboursInBay_14 : decode cX0_neighboursInBay 14 = .ok (.iconst 1, 1) := by decide +kernel
theorem dX0_neighboursInBay_15 : decode cX0_neighboursInBay 15 = .ok (.isub, 1) := by decide +kernel
theorem dX0_neighboursInBay_16 : decode cX0_neighboursInBay 16 = .ok (.invokevirtual 58, 3) := by decide +kernel
theorem dX0_neighboursInBay_19 : decode cX0_neighboursInBay 19 = .ok (.ifCond .eq 6, 3) := by decide +kernel
theorem dX0_neighboursInBay_22 : decode cX0_neighboursInBay 22 = .ok (.iinc 3 1, 3) := by decide +kernel
theorem dX0_neighboursInBay_25 : decode cX0_neighboursInBay 25 = .ok (.iload_n 2, 1) := by decide +kernel
theorem dX0_neighboursInBay_26 : decode cX0_neighboursInBay 26 = .ok (.sipush 255, 3) := by decide +kernel
theorem dX0_neighboursInBay_29 : decode cX0_neighboursInBay 29 = .ok (.if_icmp .ge 16, 3) := by decide +kernel
theorem dX0_neighboursInBay_32 : decode cX0_neighboursInBay 32 = .ok (.aload_n 0, 1) := by decide +kernel
theorem dX0_neighboursInBay_33 : decode cX0_neighboursInBay 33 = .ok (.iload_n 1, 1) := by decide +kernel
theorem dX0_neighboursInBay_34 : decode cX0_neighboursInBay 34 = .ok (.iconst 1, 1) := by decide +kernel
theorem dX0_neighboursInBay_35 : decode cX0_neighboursInBay 35 = .ok (.iadd, 1) := by decide +kernel
theorem dX0_neighboursInBay_36 : decode cX0_neighboursInBay 36 = .ok (.invokevirtual 58, 3) := by decide +kernel
theorem dX0_neighboursInBay_39 : decode cX0_neighboursInBay 39 = .ok (.ifCond .eq 6, 3) := by decide +kernel
theorem dX0_neighboursInBay_42 : decode cX0_neighboursInBay 42 = .ok (.iinc 3 1, 3) := by decide +kernel
theorem dX0_neighboursInBay_45 : decode cX0_neighboursInBay 45 = .ok (.iload_n 3, 1) := by decide +kernel
theorem dX0_neighboursInBay_46 : decode cX0_neighboursInBay 46 = .ok (.ireturn, 1) := by decide +kernel
set_option maxRecDepth 20000 in
theorem ggX0_move_X0_holds : GoodIn wsX0_move wsX0_holds := goodIn_r _ [12, 13, 14, 15, 16, 51, 52, 53, 54, 55, 56, 57] (by decide +kernel) (by decide +kernel)
set_option maxRecDepth 20000 in
theorem gX0_move_X0_holds : GoodIn wsX0_move (wsV RX0 58 RX0 yX0_holds wsX0_holds) := goodIn_app (goodIn_of _ (by decide +kernel)) ggX0_move_X0_holds
set_option maxRecDepth 20000 in
theorem ggX0_move_X0_flip : GoodIn wsX0_move wsX0_flip := goodIn_r _ [20, 13, 21, 22, 14, 15, 16, 8, 9, 10, 11, 12, 23, 24, 25, 26, 51, 52, 53, 54, 55, 56, 57] (by decide +kernel) (by decide +kernel)
set_option maxRecDepth 20000 in
theorem gX0_move_X0_flip : GoodIn wsX0_move (wsV RX0 74 RX0 yX0_flip wsX0_flip) := goodIn_app (goodIn_of _ (by decide +kernel)) ggX0_move_X0_flip
set_option maxRecDepth 20000 in
theorem ggX0_move_X0_adaptBoat : GoodIn wsX0_move wsX0_adaptBoat := goodIn_r _ [30, 21, 31, 32, 33, 34, 35, 11, 36, 37, 38, 39, 40, 41, 42, 43, 44, 45, 46, 22, 47, 48, 49, 50, 51, 52, 53, 54, 55, 56, 57] (by decide +kernel) (by decide +kernel)
set_option maxRecDepth 20000 in
theorem gX0_move_X0_adaptBoat : GoodIn wsX0_move (wsV RX0 78 RX0 yX0_adaptBoat wsX0_adaptBoat) := goodIn_app (goodIn_of _ (by decide +kernel)) ggX0_move_X0_adaptBoat
theorem dX0_move_0 : decode cX0_move 0 = .ok (.iload_n 1, 1) := by decide +kernel
theorem dX0_move_1 : decode cX0_move 1 = .ok (.iconst 0, 1) := by decide +kernel
theorem dX0_move_2 : decode cX0_move 2 = .ok (.invokestatic 65, 3) := by decide +kernel
theorem dX0_move_5 : decode cX0_move 5 = .ok (.istore 4, 2) := by decide +kernel
theorem dX0_move_7 : decode cX0_move 7 = .ok (.iload_n 2, 1) := by decide +kernel
theorem dX0_move_8 : decode cX0_move 8 = .ok (.sipush 2047, 3) := by decide +kernel
theorem dX0_move_11 : decode cX0_move 11 = .ok (.invokestatic 71, 3) := by decide +kernel
theorem dX0_move_14 : decode cX0_move 14 = .ok (.istore 5, 2) := by decide +kernel
theorem dX0_move_16 : decode cX0_move 16 = .ok (.iconst 0, 1) := by decide +kernel
theorem dX0_move_17 : decode cX0_move 17 = .ok (.istore 6, 2) := by decide +kernel
theorem dX0_move_19 : decode cX0_move 19 = .ok (.iload 4, 2) := by decide +kernel
theorem dX0_move_21 : decode cX0_move 21 = .ok (.istore 7, 2) := by decide +kernel
theorem dX0_move_23 : decode cX0_move 23 = .ok (.iload 7, 2) := by decide +kernel
theorem dX0_move_25 : decode cX0_move 25 = .ok (.iload 5, 2) := by decide +kernel
theorem dX0_move_27 : decode cX0_move 27 = .ok (.if_icmp .gt 44, 3) := by decide +kernel
theorem dX0_move_30 : decode cX0_move 30 = .ok (.aload_n 0, 1) := by decide +kernel
theorem dX0_move_31 : decode cX0_move 31 = .ok (.iload 7, 2) := by decide +kernel
theorem dX0_move_33 : decode cX0_move 33 = .ok (.invokevirtual 58, 3) := by decide +kernel
theorem dX0_move_36 : decode cX0_move 36 = .ok (.iload_n 3, 1) := by decide +kernel
theorem dX0_move_37 : decode cX0_move 37 = .ok (.if_icmp .eq 28, 3) := by decide +kernel
theorem dX0_move_40 : decode cX0_move 40 = .ok (.aload_n 0, 1) := by decide +kernel
theorem dX0_move_41 : decode cX0_move 41 = .ok (.iload 7, 2) := by decide +kernel
theorem dX0_move_43 : decode cX0_move 43 = .ok (.invokevirtual 74, 3) := by decide +kernel
theorem dX0_move_46 : decode cX0_move 46 = .ok (.aload_n 0, 1) := by decide +kernel
theorem dX0_move_47 : decode cX0_move 47 = .ok (.iload 7, 2) := by decide +kernel
theorem dX0_move_49 : decode cX0_move 49 = .ok (.sipush 256, 3) := by decide +kernel
theorem dX0_move_52 : decode cX0_move 52 = .ok (.idiv, 1) := by decide +kernel
theorem dX0_move_53 : decode cX0_move 53 = .ok (.invokevirtual 78, 3) := by decide +kernel
theorem dX0_move_56 : decode cX0_move 56 = .ok (.ifCond .ne 6, 3) := by decide +kernel
theorem dX0_move_59 : decode cX0_move 59 = .ok (.bipush (-3), 2) := by decide +kernel
theorem dX0_move_61 : decode cX0_move 61 = .ok (.ireturn, 1) := by decide +kernel
theorem dX0_move_62 : decode cX0_move 62 = .ok (.iinc 6 1, 3) := by decide +kernel
theorem dX0_move_65 : decode cX0_move 65 = .ok (.iinc 7 1, 3) := by decide +kernel
theorem dX0_move_68 : decode cX0_move 68 = .ok (.goto (-45), 3) := by decide +kernel
theorem dX0_move_71 : decode cX0_move 71 = .ok (.iload 6, 2) := by decide +kernel
theorem dX0_move_73 : decode cX0_move 73 = .ok (.ireturn, 1) := by decide +kernel
set_option maxRecDepth 20000 in
theorem ggX0_adaptBoat_X0_becomeBest : GoodIn wsX0_adaptBoat wsX0_becomeBest := goodIn_r _ [8, 2, 9, 10, 11, 12, 13, 7, 14, 15, 16, 17, 18, 1, 19, 20, 21, 22, 23, 24, 25, 26, 27, 28, 29, 30] (by decide +kernel) (by decide +kernel)
set_option maxRecDepth 20000 in
theorem gX0_adaptBoat_X0_becomeBest : GoodIn wsX0_adaptBoat (wsV RX0 81 RX0 yX0_becomeBest wsX0_becomeBest) := goodIn_app (goodIn_of _ (by decide +kernel)) ggX0_adaptBoat_X0_becomeBest
set_option maxRecDepth 20000 in
theorem ggX0_adaptBoat_X0_canHold : GoodIn wsX0_adaptBoat wsX0_canHold := goodIn_r _ [18, 1, 19, 24, 25, 26, 27, 28, 29, 30] (by decide +kernel) (by decide +kernel)
set_option maxRecDepth 20000 in
theorem gX0_adaptBoat_X0_canHold : GoodIn wsX0_adaptBoat (wsV RX0 84 RX0 yX0_canHold wsX0_canHold) := goodIn_app (goodIn_of _ (by decide +kernel)) ggX0_adaptBoat_X0_canHold
theorem dX0_adaptBoat_0 : decode cX0_adaptBoat 0 = .ok (.aload_n 0, 1) := by decide +kernel
theorem dX0_adaptBoat_1 : decode cX0_adaptBoat 1 = .ok (.getfield 19, 3) := by decide +kernel
theorem dX0_adaptBoat_4 : decode cX0_adaptBoat 4 = .ok (.iload_n 1, 1) := by decide +kernel
theorem dX0_adaptBoat_5 : decode cX0_adaptBoat 5 = .ok (.iaload, 1) := by decide +kernel
theorem dX0_adaptBoat_6 : decode cX0_adaptBoat 6 = .ok (.ifCond .ne 12, 3) := by decide +kernel
theorem dX0_adaptBoat_9 : decode cX0_adaptBoat 9 = .ok (.aload_n 0, 1) := by decide +kernel
theorem dX0_adaptBoat_10 : decode cX0_adaptBoat 10 = .ok (.getfield 15, 3) := by decide +kernel
theorem dX0_adaptBoat_13 : decode cX0_adaptBoat 13 = .ok (.iload_n 1, 1) := by decide +kernel
theorem dX0_adaptBoat_14 : decode cX0_adaptBoat 14 = .ok (.iconst 0, 1) := by decide +kernel
theorem dX0_adaptBoat_15 : decode cX0_adaptBoat 15 = .ok (.iastore, 1) := by decide +kernel
theorem dX0_adaptBoat_16 : decode cX0_adaptBoat 16 = .ok (.iconst 1, 1) := by decide +kernel
theorem dX0_adaptBoat_17 : decode cX0_adaptBoat 17 = .ok (.ireturn, 1) := by decide +kernel
theorem dX0_adaptBoat_18 : decode cX0_adaptBoat 18 = .ok (.aload_n 0, 1) := by decide +kernel
theorem dX0_adaptBoat_19 : decode cX0_adaptBoat 19 = .ok (.getfield 35, 3) := by decide +kernel
theorem dX0_adaptBoat_22 : decode cX0_adaptBoat 22 = .ok (.ifCond .ne 9, 3) := by decide +kernel
theorem dX0_adaptBoat_25 : decode cX0_adaptBoat 25 = .ok (.aload_n 0, 1) := by decide +kernel
theorem dX0_adaptBoat_26 : decode cX0_adaptBoat 26 = .ok (.iload_n 1, 1) := by decide +kernel
theorem dX0_adaptBoat_27 : decode cX0_adaptBoat 27 = .ok (.invokevirtual 81, 3) := by decide +kernel
theorem dX0_adaptBoat_30 : decode cX0_adaptBoat 30 = .ok (.pop, 1) := by decide +kernel
theorem dX0_adaptBoat_31 : decode cX0_adaptBoat 31 = .ok (.aload_n 0, 1) := by decide +kernel
theorem dX0_adaptBoat_32 : decode cX0_adaptBoat 32 = .ok (.iload_n 1, 1) := by decide +kernel
theorem dX0_adaptBoat_33 : decode cX0_adaptBoat 33 = .ok (.aload_n 0, 1) := by decide +kernel
theorem dX0_adaptBoat_34 : decode cX0_adaptBoat 34 = .ok (.getfield 15, 3) := by decide +kernel
theorem dX0_adaptBoat_37 : decode cX0_adaptBoat 37 = .ok (.iload_n 1, 1) := by decide +kernel
theorem dX0_adaptBoat_38 : decode cX0_adaptBoat 38 = .ok (.iaload, 1) := by decide +kernel
theorem dX0_adaptBoat_39 : decode cX0_adaptBoat 39 = .ok (.invokevirtual 84, 3) := by decide +kernel
theorem dX0_adaptBoat_42 : decode cX0_adaptBoat 42 = .ok (.ireturn, 1) := by decide +kernel
set_option maxRecDepth 20000 in
theorem ggX0_becomeBest_X0_bestKind : GoodIn wsX0_becomeBest wsX0_bestKind := goodIn_r _ [8, 9, 10, 11, 7, 12, 13, 14, 15, 16, 17, 18, 19, 20, 21, 22, 23, 24, 25] (by decide +kernel) (by decide +kernel)
set_option maxRecDepth 20000 in
theorem gX0_becomeBest_X0_bestKind : GoodIn wsX0_becomeBest (wsV RX0 88 RX0 yX0_bestKind wsX0_bestKind) := goodIn_app (goodIn_of _ (by decide +kernel)) ggX0_becomeBest_X0_bestKind
set_option maxRecDepth 20000 in
theorem ggX0_becomeBest_X0_unitsAs : GoodIn wsX0_becomeBest wsX0_unitsAs := goodIn_r _ [18, 13, 14, 19, 20, 21, 22, 23, 24, 25] (by decide +kernel) (by decide +kernel)
set_option maxRecDepth 20000 in
theorem gX0_becomeBest_X0_unitsAs : GoodIn wsX0_becomeBest (wsV RX0 91 RX0 yX0_unitsAs wsX0_unitsAs) := goodIn_app (goodIn_of _ (by decide +kernel)) ggX0_becomeBest_X0_unitsAs
theorem dX0_becomeBest_0 : decode cX0_becomeBest 0 = .ok (.aload_n 0, 1) := by decide +kernel
theorem dX0_becomeBest_1 : decode cX0_becomeBest 1 = .ok (.iload_n 1, 1) := by decide +kernel
theorem dX0_becomeBest_2 : decode cX0_becomeBest 2 = .ok (.invokevirtual 88, 3) := by decide +kernel
theorem dX0_becomeBest_5 : decode cX0_becomeBest 5 = .ok (.istore_n 2, 1) := by decide +kernel
theorem dX0_becomeBest_6 : decode cX0_becomeBest 6 = .ok (.aload_n 0, 1) := by decide +kernel
theorem dX0_becomeBest_7 : decode cX0_becomeBest 7 = .ok (.iload_n 1, 1) := by decide +kernel
theorem dX0_becomeBest_8 : decode cX0_becomeBest 8 = .ok (.iload_n 2, 1) := by decide +kernel
theorem dX0_becomeBest_9 : decode cX0_becomeBest 9 = .ok (.invokevirtual 91, 3) := by decide +kernel
theorem dX0_becomeBest_12 : decode cX0_becomeBest 12 = .ok (.istore_n 3, 1) := by decide +kernel
theorem dX0_becomeBest_13 : decode cX0_becomeBest 13 = .ok (.iload_n 2, 1) := by decide +kernel
theorem dX0_becomeBest_14 : decode cX0_becomeBest 14 = .ok (.aload_n 0, 1) := by decide +kernel
theorem dX0_becomeBest_15 : decode cX0_becomeBest 15 = .ok (.getfield 15, 3) := by decide +kernel
theorem dX0_becomeBest_18 : decode cX0_becomeBest 18 = .ok (.iload_n 1, 1) := by decide +kernel
theorem dX0_becomeBest_19 : decode cX0_becomeBest 19 = .ok (.iaload, 1) := by decide +kernel
theorem dX0_becomeBest_20 : decode cX0_becomeBest 20 = .ok (.if_icmp .eq 11, 3) := by decide +kernel
theorem dX0_becomeBest_23 : decode cX0_becomeBest 23 = .ok (.iload_n 3, 1) := by decide +kernel
theorem dX0_becomeBest_24 : decode cX0_becomeBest 24 = .ok (.aload_n 0, 1) := by decide +kernel
theorem dX0_becomeBest_25 : decode cX0_becomeBest 25 = .ok (.getfield 28, 3) := by decide +kernel
theorem dX0_becomeBest_28 : decode cX0_becomeBest 28 = .ok (.if_icmp .le 5, 3) := by decide +kernel
theorem dX0_becomeBest_31 : decode cX0_becomeBest 31 = .ok (.iconst 0, 1) := by decide +kernel
theorem dX0_becomeBest_32 : decode cX0_becomeBest 32 = .ok (.ireturn, 1) := by decide +kernel
theorem dX0_becomeBest_33 : decode cX0_becomeBest 33 = .ok (.aload_n 0, 1) := by decide +kernel
theorem dX0_becomeBest_34 : decode cX0_becomeBest 34 = .ok (.dup, 1) := by decide +kernel
theorem dX0_becomeBest_35 : decode cX0_becomeBest 35 = .ok (.getfield 28, 3) := by decide +kernel
theorem dX0_becomeBest_38 : decode cX0_becomeBest 38 = .ok (.iload_n 3, 1) := by decide +kernel
theorem dX0_becomeBest_39 : decode cX0_becomeBest 39 = .ok (.isub, 1) := by decide +kernel
theorem dX0_becomeBest_40 : decode cX0_becomeBest 40 = .ok (.putfield 28, 3) := by decide +kernel
theorem dX0_becomeBest_43 : decode cX0_becomeBest 43 = .ok (.aload_n 0, 1) := by decide +kernel
theorem dX0_becomeBest_44 : decode cX0_becomeBest 44 = .ok (.dup, 1) := by decide +kernel
theorem dX0_becomeBest_45 : decode cX0_becomeBest 45 = .ok (.getfield 32, 3) := by decide +kernel
theorem dX0_becomeBest_48 : decode cX0_becomeBest 48 = .ok (.iload_n 3, 1) := by decide +kernel
theorem dX0_becomeBest_49 : decode cX0_becomeBest 49 = .ok (.iadd, 1) := by decide +kernel
theorem dX0_becomeBest_50 : decode cX0_becomeBest 50 = .ok (.putfield 32, 3) := by decide +kernel
theorem dX0_becomeBest_53 : decode cX0_becomeBest 53 = .ok (.aload_n 0, 1) := by decide +kernel
theorem dX0_becomeBest_54 : decode cX0_becomeBest 54 = .ok (.getfield 15, 3) := by decide +kernel
theorem dX0_becomeBest_57 : decode cX0_becomeBest 57 = .ok (.iload_n 1, 1) := by decide +kernel
theorem dX0_becomeBest_58 : decode cX0_becomeBest 58 = .ok (.iload_n 2, 1) := by decide +kernel
theorem dX0_becomeBest_59 : decode cX0_becomeBest 59 = .ok (.iastore, 1) := by decide +kernel
theorem dX0_becomeBest_60 : decode cX0_becomeBest 60 = .ok (.iload_n 3, 1) := by decide +kernel
theorem dX0_becomeBest_61 : decode cX0_becomeBest 61 = .ok (.ireturn, 1) := by decide +kernel
set_option maxRecDepth 20000 in
theorem ggX0_enterHarbour_X0_baySavingMost : GoodIn wsX0_enterHarbour wsX0_baySavingMost := goodIn_r _ [6, 7, 8, 9, 10, 5, 11, 12, 13, 14, 15, 16, 17, 18, 19, 20, 21, 28, 29, 30, 31, 32, 33, 34] (by decide +kernel) (by decide +kernel)
set_option maxRecDepth 20000 in
theorem gX0_enterHarbour_X0_baySavingMost : GoodIn wsX0_enterHarbour (wsV RX0 94 RX0 yX0_baySavingMost wsX0_baySavingMost) := goodIn_app (goodIn_of _ (by decide +kernel)) ggX0_enterHarbour_X0_baySavingMost
set_option maxRecDepth 20000 in
theorem ggX0_enterHarbour_X0_becomeBest : GoodIn wsX0_enterHarbour wsX0_becomeBest := goodIn_r _ [25, 7, 26, 27, 8, 9, 10, 5, 11, 12, 13, 14, 15, 16, 17, 18, 19, 20, 21, 28, 29, 30, 31, 32, 33, 34] (by decide +kernel) (by decide +kernel)
set_option maxRecDepth 20000 in
theorem gX0_enterHarbour_X0_becomeBest : GoodIn wsX0_enterHarbour (wsV RX0 81 RX0 yX0_becomeBest wsX0_becomeBest) := goodIn_app (goodIn_of _ (by decide +kernel)) ggX0_enterHarbour_X0_becomeBest
theorem dX0_enterHarbour_0 : decode cX0_enterHarbour 0 = .ok (.aload_n 0, 1) := by decide +kernel
theorem dX0_enterHarbour_1 : decode cX0_enterHarbour 1 = .ok (.iconst 0, 1) := by decide +kernel
theorem dX0_enterHarbour_2 : decode cX0_enterHarbour 2 = .ok (.putfield 35, 3) := by decide +kernel
theorem dX0_enterHarbour_5 : decode cX0_enterHarbour 5 = .ok (.iconst 0, 1) := by decide +kernel
theorem dX0_enterHarbour_6 : decode cX0_enterHarbour 6 = .ok (.istore_n 1, 1) := by decide +kernel
theorem dX0_enterHarbour_7 : decode cX0_enterHarbour 7 = .ok (.iconst 0, 1) := by decide +kernel
theorem dX0_enterHarbour_8 : decode cX0_enterHarbour 8 = .ok (.istore_n 2, 1) := by decide +kernel
theorem dX0_enterHarbour_9 : decode cX0_enterHarbour 9 = .ok (.iconst 0, 1) := by decide +kernel
theorem dX0_enterHarbour_10 : decode cX0_enterHarbour 10 = .ok (.istore_n 3, 1) := by decide +kernel
theorem dX0_enterHarbour_11 : decode cX0_enterHarbour 11 = .ok (.iload_n 3, 1) := by decide +kernel
theorem dX0_enterHarbour_12 : decode cX0_enterHarbour 12 = .ok (.bipush 8, 2) := by decide +kernel
theorem dX0_enterHarbour_14 : decode cX0_enterHarbour 14 = .ok (.if_icmp .ge 39, 3) := by decide +kernel
theorem dX0_enterHarbour_17 : decode cX0_enterHarbour 17 = .ok (.aload_n 0, 1) := by decide +kernel
theorem dX0_enterHarbour_18 : decode cX0_enterHarbour 18 = .ok (.iload_n 2, 1) := by decide +kernel
theorem dX0_enterHarbour_19 : decode cX0_enterHarbour 19 = .ok (.invokevirtual 94, 3) := by decide +kernel
theorem dX0_enterHarbour_22 : decode cX0_enterHarbour 22 = .ok (.istore 4, 2) := by decide +kernel
theorem dX0_enterHarbour_24 : decode cX0_enterHarbour 24 = .ok (.iload 4, 2) := by decide +kernel
theorem dX0_enterHarbour_26 : decode cX0_enterHarbour 26 = .ok (.bipush (-5), 2) := by decide +kernel
theorem dX0_enterHarbour_28 : decode cX0_enterHarbour 28 = .ok (.if_icmp .eq 19, 3) := by decide +kernel
theorem dX0_enterHarbour_31 : decode cX0_enterHarbour 31 = .ok (.iload_n 2, 1) := by decide +kernel
theorem dX0_enterHarbour_32 : decode cX0_enterHarbour 32 = .ok (.iconst 1, 1) := by decide +kernel
theorem dX0_enterHarbour_33 : decode cX0_enterHarbour 33 = .ok (.iload 4, 2) := by decide +kernel
theorem dX0_enterHarbour_35 : decode cX0_enterHarbour 35 = .ok (.ishl, 1) := by decide +kernel
theorem dX0_enterHarbour_36 : decode cX0_enterHarbour 36 = .ok (.ior, 1) := by decide +kernel
theorem dX0_enterHarbour_37 : decode cX0_enterHarbour 37 = .ok (.istore_n 2, 1) := by decide +kernel
theorem dX0_enterHarbour_38 : decode cX0_enterHarbour 38 = .ok (.iload_n 1, 1) := by decide +kernel
theorem dX0_enterHarbour_39 : decode cX0_enterHarbour 39 = .ok (.aload_n 0, 1) := by decide +kernel
theorem dX0_enterHarbour_40 : decode cX0_enterHarbour 40 = .ok (.iload 4, 2) := by decide +kernel
theorem dX0_enterHarbour_42 : decode cX0_enterHarbour 42 = .ok (.invokevirtual 81, 3) := by decide +kernel
theorem dX0_enterHarbour_45 : decode cX0_enterHarbour 45 = .ok (.iadd, 1) := by decide +kernel
theorem dX0_enterHarbour_46 : decode cX0_enterHarbour 46 = .ok (.istore_n 1, 1) := by decide +kernel
theorem dX0_enterHarbour_47 : decode cX0_enterHarbour 47 = .ok (.iinc 3 1, 3) := by decide +kernel
theorem dX0_enterHarbour_50 : decode cX0_enterHarbour 50 = .ok (.goto (-39), 3) := by decide +kernel
theorem dX0_enterHarbour_53 : decode cX0_enterHarbour 53 = .ok (.iload_n 1, 1) := by decide +kernel
theorem dX0_enterHarbour_54 : decode cX0_enterHarbour 54 = .ok (.ireturn, 1) := by decide +kernel
set_option maxRecDepth 20000 in
theorem ggX0_baySavingMost_X0_bestKind : GoodIn wsX0_baySavingMost wsX0_bestKind := goodIn_r _ [6, 7, 8, 9, 5, 10, 11, 12, 13, 14, 15, 16, 17, 18, 19, 20, 21, 22, 23] (by decide +kernel) (by decide +kernel)
set_option maxRecDepth 20000 in
theorem gX0_baySavingMost_X0_bestKind : GoodIn wsX0_baySavingMost (wsV RX0 88 RX0 yX0_bestKind wsX0_bestKind) := goodIn_app (goodIn_of _ (by decide +kernel)) ggX0_baySavingMost_X0_bestKind
set_option maxRecDepth 20000 in
theorem ggX0_baySavingMost_X0_unitsAs : GoodIn wsX0_baySavingMost wsX0_unitsAs := goodIn_r _ [16, 11, 12, 17, 18, 19, 20, 21, 22, 23] (by decide +kernel) (by decide +kernel)
set_option maxRecDepth 20000 in
theorem gX0_baySavingMost_X0_unitsAs : GoodIn wsX0_baySavingMost (wsV RX0 91 RX0 yX0_unitsAs wsX0_unitsAs) := goodIn_app (goodIn_of _ (by decide +kernel)) ggX0_baySavingMost_X0_unitsAs
theorem dX0_baySavingMost_0 : decode cX0_baySavingMost 0 = .ok (.bipush (-5), 2) := by decide +kernel
theorem dX0_baySavingMost_2 : decode cX0_baySavingMost 2 = .ok (.istore_n 2, 1) := by decide +kernel
theorem dX0_baySavingMost_3 : decode cX0_baySavingMost 3 = .ok (.iconst (-1), 1) := by decide +kernel
theorem dX0_baySavingMost_4 : decode cX0_baySavingMost 4 = .ok (.istore_n 3, 1) := by decide +kernel
theorem dX0_baySavingMost_5 : decode cX0_baySavingMost 5 = .ok (.iconst 0, 1) := by decide +kernel
theorem dX0_baySavingMost_6 : decode cX0_baySavingMost 6 = .ok (.istore 4, 2) := by decide +kernel
theorem dX0_baySavingMost_8 : decode cX0_baySavingMost 8 = .ok (.iload 4, 2) := by decide +kernel
theorem dX0_baySavingMost_10 : decode cX0_baySavingMost 10 = .ok (.bipush 8, 2) := by decide +kernel
theorem dX0_baySavingMost_12 : decode cX0_baySavingMost 12 = .ok (.if_icmp .ge 74, 3) := by decide +kernel
theorem dX0_baySavingMost_15 : decode cX0_baySavingMost 15 = .ok (.aload_n 0, 1) := by decide +kernel
theorem dX0_baySavingMost_16 : decode cX0_baySavingMost 16 = .ok (.iload 4, 2) := by decide +kernel
theorem dX0_baySavingMost_18 : decode cX0_baySavingMost 18 = .ok (.invokevirtual 88, 3) := by decide +kernel
theorem dX0_baySavingMost_21 : decode cX0_baySavingMost 21 = .ok (.istore 5, 2) := by decide +kernel
theorem dX0_baySavingMost_23 : decode cX0_baySavingMost 23 = .ok (.aload_n 0, 1) := by decide +kernel
theorem dX0_baySavingMost_24 : decode cX0_baySavingMost 24 = .ok (.iload 4, 2) := by decide +kernel
theorem dX0_baySavingMost_26 : decode cX0_baySavingMost 26 = .ok (.aload_n 0, 1) := by decide +kernel
theorem dX0_baySavingMost_27 : decode cX0_baySavingMost 27 = .ok (.getfield 15, 3) := by decide +kernel
theorem dX0_baySavingMost_30 : decode cX0_baySavingMost 30 = .ok (.iload 4, 2) := by decide +kernel
theorem dX0_baySavingMost_32 : decode cX0_baySavingMost 32 = .ok (.iaload, 1) := by decide +kernel
theorem dX0_baySavingMost_33 : decode cX0_baySavingMost 33 = .ok (.invokevirtual 91, 3) := by decide +kernel
theorem dX0_baySavingMost_36 : decode cX0_baySavingMost 36 = .ok (.aload_n 0, 1) := by decide +kernel
theorem dX0_baySavingMost_37 : decode cX0_baySavingMost 37 = .ok (.iload 4, 2) := by decide +kernel
theorem dX0_baySavingMost_39 : decode cX0_baySavingMost 39 = .ok (.iload 5, 2) := by decide +kernel
theorem dX0_baySavingMost_41 : decode cX0_baySavingMost 41 = .ok (.invokevirtual 91, 3) := by decide +kernel
theorem dX0_baySavingMost_44 : decode cX0_baySavingMost 44 = .ok (.isub, 1) := by decide +kernel
theorem dX0_baySavingMost_45 : decode cX0_baySavingMost 45 = .ok (.istore 6, 2) := by decide +kernel
theorem dX0_baySavingMost_47 : decode cX0_baySavingMost 47 = .ok (.iload_n 1, 1) := by decide +kernel
theorem dX0_baySavingMost_48 : decode cX0_baySavingMost 48 = .ok (.iload 4, 2) := by decide +kernel
theorem dX0_baySavingMost_50 : decode cX0_baySavingMost 50 = .ok (.ishr, 1) := by decide +kernel
theorem dX0_baySavingMost_51 : decode cX0_baySavingMost 51 = .ok (.iconst 1, 1) := by decide +kernel
theorem dX0_baySavingMost_52 : decode cX0_baySavingMost 52 = .ok (.iand, 1) := by decide +kernel
theorem dX0_baySavingMost_53 : decode cX0_baySavingMost 53 = .ok (.ifCond .ne 27, 3) := by decide +kernel
theorem dX0_baySavingMost_56 : decode cX0_baySavingMost 56 = .ok (.aload_n 0, 1) := by decide +kernel
theorem dX0_baySavingMost_57 : decode cX0_baySavingMost 57 = .ok (.getfield 15, 3) := by decide +kernel
theorem dX0_baySavingMost_60 : decode cX0_baySavingMost 60 = .ok (.iload 4, 2) := by decide +kernel
theorem dX0_baySavingMost_62 : decode cX0_baySavingMost 62 = .ok (.iaload, 1) := by decide +kernel
theorem dX0_baySavingMost_63 : decode cX0_baySavingMost 63 = .ok (.iload 5, 2) := by decide +kernel
theorem dX0_baySavingMost_65 : decode cX0_baySavingMost 65 = .ok (.if_icmp .eq 15, 3) := by decide +kernel
theorem dX0_baySavingMost_68 : decode cX0_baySavingMost 68 = .ok (.iload 6, 2) := by decide +kernel
theorem dX0_baySavingMost_70 : decode cX0_baySavingMost 70 = .ok (.iload_n 3, 1) := by decide +kernel
theorem dX0_baySavingMost_71 : decode cX0_baySavingMost 71 = .ok (.if_icmp .le 9, 3) := by decide +kernel
theorem dX0_baySavingMost_74 : decode cX0_baySavingMost 74 = .ok (.iload 4, 2) := by decide +kernel
theorem dX0_baySavingMost_76 : decode cX0_baySavingMost 76 = .ok (.istore_n 2, 1) := by decide +kernel
theorem dX0_baySavingMost_77 : decode cX0_baySavingMost 77 = .ok (.iload 6, 2) := by decide +kernel
theorem dX0_baySavingMost_79 : decode cX0_baySavingMost 79 = .ok (.istore_n 3, 1) := by decide +kernel
theorem dX0_baySavingMost_80 : decode cX0_baySavingMost 80 = .ok (.iinc 4 1, 3) := by decide +kernel
theorem dX0_baySavingMost_83 : decode cX0_baySavingMost 83 = .ok (.goto (-75), 3) := by decide +kernel
theorem dX0_baySavingMost_86 : decode cX0_baySavingMost 86 = .ok (.iload_n 2, 1) := by decide +kernel
theorem dX0_baySavingMost_87 : decode cX0_baySavingMost 87 = .ok (.ireturn, 1) := by decide +kernel
theorem dX0_canHold_0 : decode cX0_canHold 0 = .ok (.iload_n 2, 1) := by decide +kernel
theorem dX0_canHold_1 : decode cX0_canHold 1 = .ok (.lookupswitch 61 #[(0, 27), (2, 44)], 27) := by decide +kernel
theorem dX0_canHold_28 : decode cX0_canHold 28 = .ok (.aload_n 0, 1) := by decide +kernel
theorem dX0_canHold_29 : decode cX0_canHold 29 = .ok (.getfield 19, 3) := by decide +kernel
theorem dX0_canHold_32 : decode cX0_canHold 32 = .ok (.iload_n 1, 1) := by decide +kernel
theorem dX0_canHold_33 : decode cX0_canHold 33 = .ok (.iaload, 1) := by decide +kernel
theorem dX0_canHold_34 : decode cX0_canHold 34 = .ok (.bipush 24, 2) := by decide +kernel
theorem dX0_canHold_36 : decode cX0_canHold 36 = .ok (.if_icmp .gt 7, 3) := by decide +kernel
theorem dX0_canHold_39 : decode cX0_canHold 39 = .ok (.iconst 1, 1) := by decide +kernel
theorem dX0_canHold_40 : decode cX0_canHold 40 = .ok (.goto 4, 3) := by decide +kernel
theorem dX0_canHold_43 : decode cX0_canHold 43 = .ok (.iconst 0, 1) := by decide +kernel
theorem dX0_canHold_44 : decode cX0_canHold 44 = .ok (.ireturn, 1) := by decide +kernel
theorem dX0_canHold_45 : decode cX0_canHold 45 = .ok (.aload_n 0, 1) := by decide +kernel
theorem dX0_canHold_46 : decode cX0_canHold 46 = .ok (.getfield 22, 3) := by decide +kernel
theorem dX0_canHold_49 : decode cX0_canHold 49 = .ok (.iload_n 1, 1) := by decide +kernel
theorem dX0_canHold_50 : decode cX0_canHold 50 = .ok (.iaload, 1) := by decide +kernel
theorem dX0_canHold_51 : decode cX0_canHold 51 = .ok (.bipush 8, 2) := by decide +kernel
theorem dX0_canHold_53 : decode cX0_canHold 53 = .ok (.if_icmp .gt 7, 3) := by decide +kernel
theorem dX0_canHold_56 : decode cX0_canHold 56 = .ok (.iconst 1, 1) := by decide +kernel
theorem dX0_canHold_57 : decode cX0_canHold 57 = .ok (.goto 4, 3) := by decide +kernel
theorem dX0_canHold_60 : decode cX0_canHold 60 = .ok (.iconst 0, 1) := by decide +kernel
theorem dX0_canHold_61 : decode cX0_canHold 61 = .ok (.ireturn, 1) := by decide +kernel
theorem dX0_canHold_62 : decode cX0_canHold 62 = .ok (.iconst 1, 1) := by decide +kernel
theorem dX0_canHold_63 : decode cX0_canHold 63 = .ok (.ireturn, 1) := by decide +kernel
theorem dX0_unitsAs_0 : decode cX0_unitsAs 0 = .ok (.iload_n 2, 1) := by decide +kernel
theorem dX0_unitsAs_1 : decode cX0_unitsAs 1 = .ok (.lookupswitch 45 #[(0, 27), (2, 36)], 27) := by decide +kernel
theorem dX0_unitsAs_28 : decode cX0_unitsAs 28 = .ok (.iconst 2, 1) := by decide +kernel
theorem dX0_unitsAs_29 : decode cX0_unitsAs 29 = .ok (.aload_n 0, 1) := by decide +kernel
theorem dX0_unitsAs_30 : decode cX0_unitsAs 30 = .ok (.getfield 19, 3) := by decide +kernel
theorem dX0_unitsAs_33 : decode cX0_unitsAs 33 = .ok (.iload_n 1, 1) := by decide +kernel
theorem dX0_unitsAs_34 : decode cX0_unitsAs 34 = .ok (.iaload, 1) := by decide +kernel
theorem dX0_unitsAs_35 : decode cX0_unitsAs 35 = .ok (.imul, 1) := by decide +kernel
theorem dX0_unitsAs_36 : decode cX0_unitsAs 36 = .ok (.ireturn, 1) := by decide +kernel
theorem dX0_unitsAs_37 : decode cX0_unitsAs 37 = .ok (.iconst 3, 1) := by decide +kernel
theorem dX0_unitsAs_38 : decode cX0_unitsAs 38 = .ok (.aload_n 0, 1) := by decide +kernel
theorem dX0_unitsAs_39 : decode cX0_unitsAs 39 = .ok (.getfield 22, 3) := by decide +kernel
theorem dX0_unitsAs_42 : decode cX0_unitsAs 42 = .ok (.iload_n 1, 1) := by decide +kernel
theorem dX0_unitsAs_43 : decode cX0_unitsAs 43 = .ok (.iaload, 1) := by decide +kernel
theorem dX0_unitsAs_44 : decode cX0_unitsAs 44 = .ok (.imul, 1) := by decide +kernel
theorem dX0_unitsAs_45 : decode cX0_unitsAs 45 = .ok (.ireturn, 1) := by decide +kernel
theorem dX0_unitsAs_46 : decode cX0_unitsAs 46 = .ok (.bipush 32, 2) := by decide +kernel
theorem dX0_unitsAs_48 : decode cX0_unitsAs 48 = .ok (.ireturn, 1) := by decide +kernel
set_option maxRecDepth 20000 in
theorem ggX0_bestKind_X0_canHold : GoodIn wsX0_bestKind wsX0_canHold := goodIn_r _ [5, 6, 7, 12, 13, 14, 15, 16, 17, 18] (by decide +kernel) (by decide +kernel)
set_option maxRecDepth 20000 in
theorem gX0_bestKind_X0_canHold : GoodIn wsX0_bestKind (wsV RX0 84 RX0 yX0_canHold wsX0_canHold) := goodIn_app (goodIn_of _ (by decide +kernel)) ggX0_bestKind_X0_canHold
set_option maxRecDepth 20000 in
theorem ggX0_bestKind_X0_unitsAs : GoodIn wsX0_bestKind wsX0_unitsAs := goodIn_r _ [11, 6, 7, 12, 13, 14, 15, 16, 17, 18] (by decide +kernel) (by decide +kernel)
set_option maxRecDepth 20000 in
theorem gX0_bestKind_X0_unitsAs : GoodIn wsX0_bestKind (wsV RX0 91 RX0 yX0_unitsAs wsX0_unitsAs) := goodIn_app (goodIn_of _ (by decide +kernel)) ggX0_bestKind_X0_unitsAs
theorem dX0_bestKind_0 : decode cX0_bestKind 0 = .ok (.iconst 1, 1) := by decide +kernel
theorem dX0_bestKind_1 : decode cX0_bestKind 1 = .ok (.istore_n 2, 1) := by decide +kernel
theorem dX0_bestKind_2 : decode cX0_bestKind 2 = .ok (.aload_n 0, 1) := by decide +kernel
theorem dX0_bestKind_3 : decode cX0_bestKind 3 = .ok (.iload_n 1, 1) := by decide +kernel
theorem dX0_bestKind_4 : decode cX0_bestKind 4 = .ok (.iconst 0, 1) := by decide +kernel
theorem dX0_bestKind_5 : decode cX0_bestKind 5 = .ok (.invokevirtual 84, 3) := by decide +kernel
theorem dX0_bestKind_8 : decode cX0_bestKind 8 = .ok (.ifCond .eq 20, 3) := by decide +kernel
theorem dX0_bestKind_11 : decode cX0_bestKind 11 = .ok (.aload_n 0, 1) := by decide +kernel
theorem dX0_bestKind_12 : decode cX0_bestKind 12 = .ok (.iload_n 1, 1) := by decide +kernel
theorem dX0_bestKind_13 : decode cX0_bestKind 13 = .ok (.iconst 0, 1) := by decide +kernel
theorem dX0_bestKind_14 : decode cX0_bestKind 14 = .ok (.invokevirtual 91, 3) := by decide +kernel
theorem dX0_bestKind_17 : decode cX0_bestKind 17 = .ok (.aload_n 0, 1) := by decide +kernel
theorem dX0_bestKind_18 : decode cX0_bestKind 18 = .ok (.iload_n 1, 1) := by decide +kernel
theorem dX0_bestKind_19 : decode cX0_bestKind 19 = .ok (.iconst 1, 1) := by decide +kernel
theorem dX0_bestKind_20 : decode cX0_bestKind 20 = .ok (.invokevirtual 91, 3) := by decide +kernel
theorem dX0_bestKind_23 : decode cX0_bestKind 23 = .ok (.if_icmp .gt 5, 3) := by decide +kernel
theorem dX0_bestKind_26 : decode cX0_bestKind 26 = .ok (.iconst 0, 1) := by decide +kernel
theorem dX0_bestKind_27 : decode cX0_bestKind 27 = .ok (.istore_n 2, 1) := by decide +kernel
theorem dX0_bestKind_28 : decode cX0_bestKind 28 = .ok (.aload_n 0, 1) := by decide +kernel
theorem dX0_bestKind_29 : decode cX0_bestKind 29 = .ok (.iload_n 1, 1) := by decide +kernel
theorem dX0_bestKind_30 : decode cX0_bestKind 30 = .ok (.iconst 2, 1) := by decide +kernel
theorem dX0_bestKind_31 : decode cX0_bestKind 31 = .ok (.invokevirtual 84, 3) := by decide +kernel
theorem dX0_bestKind_34 : decode cX0_bestKind 34 = .ok (.ifCond .eq 20, 3) := by decide +kernel
theorem dX0_bestKind_37 : decode cX0_bestKind 37 = .ok (.aload_n 0, 1) := by decide +kernel
theorem dX0_bestKind_38 : decode cX0_bestKind 38 = .ok (.iload_n 1, 1) := by decide +kernel
theorem dX0_bestKind_39 : decode cX0_bestKind 39 = .ok (.iconst 2, 1) := by decide +kernel
theorem dX0_bestKind_40 : decode cX0_bestKind 40 = .ok (.invokevirtual 91, 3) := by decide +kernel
theorem dX0_bestKind_43 : decode cX0_bestKind 43 = .ok (.aload_n 0, 1) := by decide +kernel
theorem dX0_bestKind_44 : decode cX0_bestKind 44 = .ok (.iload_n 1, 1) := by decide +kernel
theorem dX0_bestKind_45 : decode cX0_bestKind 45 = .ok (.iload_n 2, 1) := by decide +kernel
theorem dX0_bestKind_46 : decode cX0_bestKind 46 = .ok (.invokevirtual 91, 3) := by decide +kernel
theorem dX0_bestKind_49 : decode cX0_bestKind 49 = .ok (.if_icmp .ge 5, 3) := by decide +kernel
theorem dX0_bestKind_52 : decode cX0_bestKind 52 = .ok (.iconst 2, 1) := by decide +kernel
theorem dX0_bestKind_53 : decode cX0_bestKind 53 = .ok (.istore_n 2, 1) := by decide +kernel
theorem dX0_bestKind_54 : decode cX0_bestKind 54 = .ok (.iload_n 2, 1) := by decide +kernel
theorem dX0_bestKind_55 : decode cX0_bestKind 55 = .ok (.ireturn, 1) := by decide +kernel
set_option maxRecDepth 20000 in
theorem ggX0_tollToBest_X0_bestKind : GoodIn wsX0_tollToBest wsX0_bestKind := goodIn_r _ [6, 7, 8, 9, 5, 10, 11, 12, 13, 14, 15, 16, 17, 18, 19, 20, 21, 22, 23] (by decide +kernel) (by decide +kernel)
set_option maxRecDepth 20000 in
theorem gX0_tollToBest_X0_bestKind : GoodIn wsX0_tollToBest (wsV RX0 88 RX0 yX0_bestKind wsX0_bestKind) := goodIn_app (goodIn_of _ (by decide +kernel)) ggX0_tollToBest_X0_bestKind
set_option maxRecDepth 20000 in
theorem ggX0_tollToBest_X0_unitsAs : GoodIn wsX0_tollToBest wsX0_unitsAs := goodIn_r _ [16, 11, 12, 17, 18, 19, 20, 21, 22, 23] (by decide +kernel) (by decide +kernel)
set_option maxRecDepth 20000 in
theorem gX0_tollToBest_X0_unitsAs : GoodIn wsX0_tollToBest (wsV RX0 91 RX0 yX0_unitsAs wsX0_unitsAs) := goodIn_app (goodIn_of _ (by decide +kernel)) ggX0_tollToBest_X0_unitsAs
theorem dX0_tollToBest_0 : decode cX0_tollToBest 0 = .ok (.aload_n 0, 1) := by decide +kernel
theorem dX0_tollToBest_1 : decode cX0_tollToBest 1 = .ok (.iload_n 1, 1) := by decide +kernel
theorem dX0_tollToBest_2 : decode cX0_tollToBest 2 = .ok (.invokevirtual 88, 3) := by decide +kernel
theorem dX0_tollToBest_5 : decode cX0_tollToBest 5 = .ok (.istore_n 2, 1) := by decide +kernel
theorem dX0_tollToBest_6 : decode cX0_tollToBest 6 = .ok (.iload_n 2, 1) := by decide +kernel
theorem dX0_tollToBest_7 : decode cX0_tollToBest 7 = .ok (.aload_n 0, 1) := by decide +kernel
theorem dX0_tollToBest_8 : decode cX0_tollToBest 8 = .ok (.getfield 15, 3) := by decide +kernel
theorem dX0_tollToBest_11 : decode cX0_tollToBest 11 = .ok (.iload_n 1, 1) := by decide +kernel
theorem dX0_tollToBest_12 : decode cX0_tollToBest 12 = .ok (.iaload, 1) := by decide +kernel
theorem dX0_tollToBest_13 : decode cX0_tollToBest 13 = .ok (.if_icmp .ne 7, 3) := by decide +kernel
theorem dX0_tollToBest_16 : decode cX0_tollToBest 16 = .ok (.iconst 0, 1) := by decide +kernel
theorem dX0_tollToBest_17 : decode cX0_tollToBest 17 = .ok (.goto 9, 3) := by decide +kernel
theorem dX0_tollToBest_20 : decode cX0_tollToBest 20 = .ok (.aload_n 0, 1) := by decide +kernel
theorem dX0_tollToBest_21 : decode cX0_tollToBest 21 = .ok (.iload_n 1, 1) := by decide +kernel
theorem dX0_tollToBest_22 : decode cX0_tollToBest 22 = .ok (.iload_n 2, 1) := by decide +kernel
theorem dX0_tollToBest_23 : decode cX0_tollToBest 23 = .ok (.invokevirtual 91, 3) := by decide +kernel
theorem dX0_tollToBest_26 : decode cX0_tollToBest 26 = .ok (.ireturn, 1) := by decide +kernel
set_option maxRecDepth 20000 in
theorem ggX0_fillWith_X0_clearNumbers : GoodIn wsX0_fillWith wsX0_clearNumbers := goodIn_r _ [7, 1, 2, 8, 9, 10, 11, 12, 13, 14, 15, 16, 47, 48, 49, 50, 51, 52, 53] (by decide +kernel) (by decide +kernel)
set_option maxRecDepth 20000 in
theorem gX0_fillWith_X0_clearNumbers : GoodIn wsX0_fillWith (wsV RX0 25 RX0 yX0_clearNumbers wsX0_clearNumbers) := goodIn_app (goodIn_of _ (by decide +kernel)) ggX0_fillWith_X0_clearNumbers
set_option maxRecDepth 20000 in
theorem ggX0_fillWith_X4_join : GoodIn wsX0_fillWith wsX4_join := goodIn_r _ [19, 20] (by decide +kernel) (by decide +kernel)
set_option maxRecDepth 20000 in
theorem gX0_fillWith_X4_join_n97 : GoodIn wsX0_fillWith (wsX4_join) := ggX0_fillWith_X4_join
set_option maxRecDepth 20000 in
theorem ggX0_fillWith_X0_flip : GoodIn wsX0_fillWith wsX0_flip := goodIn_r _ [24, 1, 8, 9, 25, 18, 26, 27, 28, 29, 6, 30, 31, 32, 33, 34, 47, 48, 49, 50, 51, 52, 53] (by decide +kernel) (by decide +kernel)
set_option maxRecDepth 20000 in
theorem gX0_fillWith_X0_flip : GoodIn wsX0_fillWith (wsV RX0 74 RX0 yX0_flip wsX0_flip) := goodIn_app (goodIn_of _ (by decide +kernel)) ggX0_fillWith_X0_flip
set_option maxRecDepth 20000 in
theorem ggX0_fillWith_X0_bestKind : GoodIn wsX0_fillWith wsX0_bestKind := goodIn_r _ [38, 39, 40, 41, 6, 42, 8, 9, 43, 44, 45, 46, 47, 48, 49, 50, 51, 52, 53] (by decide +kernel) (by decide +kernel)
set_option maxRecDepth 20000 in
theorem gX0_fillWith_X0_bestKind : GoodIn wsX0_fillWith (wsV RX0 88 RX0 yX0_bestKind wsX0_bestKind) := goodIn_app (goodIn_of _ (by decide +kernel)) ggX0_fillWith_X0_bestKind
theorem dX0_fillWith_0 : decode cX0_fillWith 0 = .ok (.aload_n 0, 1) := by decide +kernel
theorem dX0_fillWith_1 : decode cX0_fillWith 1 = .ok (.invokevirtual 25, 3) := by decide +kernel
theorem dX0_fillWith_4 : decode cX0_fillWith 4 = .ok (.iconst 0, 1) := by decide +kernel
theorem dX0_fillWith_5 : decode cX0_fillWith 5 = .ok (.istore 4, 2) := by decide +kernel
theorem dX0_fillWith_7 : decode cX0_fillWith 7 = .ok (.iload 4, 2) := by decide +kernel
theorem dX0_fillWith_9 : decode cX0_fillWith 9 = .ok (.bipush 32, 2) := by decide +kernel
theorem dX0_fillWith_11 : decode cX0_fillWith 11 = .ok (.if_icmp .ge 69, 3) := by decide +kernel
theorem dX0_fillWith_14 : decode cX0_fillWith 14 = .ok (.iload_n 1, 1) := by decide +kernel
theorem dX0_fillWith_15 : decode cX0_fillWith 15 = .ok (.aload_n 2, 1) := by decide +kernel
theorem dX0_fillWith_16 : decode cX0_fillWith 16 = .ok (.getfield 9, 3) := by decide +kernel
theorem dX0_fillWith_19 : decode cX0_fillWith 19 = .ok (.iload 4, 2) := by decide +kernel
theorem dX0_fillWith_21 : decode cX0_fillWith 21 = .ok (.laload, 1) := by decide +kernel
theorem dX0_fillWith_22 : decode cX0_fillWith 22 = .ok (.aload_n 3, 1) := by decide +kernel
theorem dX0_fillWith_23 : decode cX0_fillWith 23 = .ok (.getfield 9, 3) := by decide +kernel
theorem dX0_fillWith_26 : decode cX0_fillWith 26 = .ok (.iload 4, 2) := by decide +kernel
theorem dX0_fillWith_28 : decode cX0_fillWith 28 = .ok (.laload, 1) := by decide +kernel
theorem dX0_fillWith_29 : decode cX0_fillWith 29 = .ok (.invokestatic 97, 3) := by decide +kernel
theorem dX0_fillWith_32 : decode cX0_fillWith 32 = .ok (.lstore 5, 2) := by decide +kernel
theorem dX0_fillWith_34 : decode cX0_fillWith 34 = .ok (.iconst 0, 1) := by decide +kernel
theorem dX0_fillWith_35 : decode cX0_fillWith 35 = .ok (.istore 7, 2) := by decide +kernel
theorem dX0_fillWith_37 : decode cX0_fillWith 37 = .ok (.iload 7, 2) := by decide +kernel
theorem dX0_fillWith_39 : decode cX0_fillWith 39 = .ok (.bipush 64, 2) := by decide +kernel
theorem dX0_fillWith_41 : decode cX0_fillWith 41 = .ok (.if_icmp .ge 33, 3) := by decide +kernel
theorem dX0_fillWith_44 : decode cX0_fillWith 44 = .ok (.lload 5, 2) := by decide +kernel
theorem dX0_fillWith_46 : decode cX0_fillWith 46 = .ok (.iload 7, 2) := by decide +kernel
theorem dX0_fillWith_48 : decode cX0_fillWith 48 = .ok (.lushr, 1) := by decide +kernel
theorem dX0_fillWith_49 : decode cX0_fillWith 49 = .ok (.lconst 1, 1) := by decide +kernel
theorem dX0_fillWith_50 : decode cX0_fillWith 50 = .ok (.land, 1) := by decide +kernel
theorem dX0_fillWith_51 : decode cX0_fillWith 51 = .ok (.lconst 0, 1) := by decide +kernel
theorem dX0_fillWith_52 : decode cX0_fillWith 52 = .ok (.lcmp, 1) := by decide +kernel
theorem dX0_fillWith_53 : decode cX0_fillWith 53 = .ok (.ifCond .eq 15, 3) := by decide +kernel
theorem dX0_fillWith_56 : decode cX0_fillWith 56 = .ok (.aload_n 0, 1) := by decide +kernel
theorem dX0_fillWith_57 : decode cX0_fillWith 57 = .ok (.iload 4, 2) := by decide +kernel
theorem dX0_fillWith_59 : decode cX0_fillWith 59 = .ok (.bipush 64, 2) := by decide +kernel
theorem dX0_fillWith_61 : decode cX0_fillWith 61 = .ok (.imul, 1) := by decide +kernel
theorem dX0_fillWith_62 : decode cX0_fillWith 62 = .ok (.iload 7, 2) := by decide +kernel
theorem dX0_fillWith_64 : decode cX0_fillWith 64 = .ok (.iadd, 1) := by decide +kernel
theorem dX0_fillWith_65 : decode cX0_fillWith 65 = .ok (.invokevirtual 74, 3) := by decide +kernel
theorem dX0_fillWith_68 : decode cX0_fillWith 68 = .ok (.iinc 7 1, 3) := by decide +kernel
theorem dX0_fillWith_71 : decode cX0_fillWith 71 = .ok (.goto (-34), 3) := by decide +kernel
theorem dX0_fillWith_74 : decode cX0_fillWith 74 = .ok (.iinc 4 1, 3) := by decide +kernel
theorem dX0_fillWith_77 : decode cX0_fillWith 77 = .ok (.goto (-70), 3) := by decide +kernel
theorem dX0_fillWith_80 : decode cX0_fillWith 80 = .ok (.iconst 0, 1) := by decide +kernel
theorem dX0_fillWith_81 : decode cX0_fillWith 81 = .ok (.istore 4, 2) := by decide +kernel
theorem dX0_fillWith_83 : decode cX0_fillWith 83 = .ok (.iload 4, 2) := by decide +kernel
theorem dX0_fillWith_85 : decode cX0_fillWith 85 = .ok (.bipush 8, 2) := by decide +kernel
theorem dX0_fillWith_87 : decode cX0_fillWith 87 = .ok (.if_icmp .ge 22, 3) := by decide +kernel
theorem dX0_fillWith_90 : decode cX0_fillWith 90 = .ok (.aload_n 0, 1) := by decide +kernel
theorem dX0_fillWith_91 : decode cX0_fillWith 91 = .ok (.getfield 15, 3) := by decide +kernel
theorem dX0_fillWith_94 : decode cX0_fillWith 94 = .ok (.iload 4, 2) := by decide +kernel
theorem dX0_fillWith_96 : decode cX0_fillWith 96 = .ok (.aload_n 0, 1) := by decide +kernel
theorem dX0_fillWith_97 : decode cX0_fillWith 97 = .ok (.iload 4, 2) := by decide +kernel
theorem dX0_fillWith_99 : decode cX0_fillWith 99 = .ok (.invokevirtual 88, 3) := by decide +kernel
theorem dX0_fillWith_102 : decode cX0_fillWith 102 = .ok (.iastore, 1) := by decide +kernel
theorem dX0_fillWith_103 : decode cX0_fillWith 103 = .ok (.iinc 4 1, 3) := by decide +kernel
theorem dX0_fillWith_106 : decode cX0_fillWith 106 = .ok (.goto (-23), 3) := by decide +kernel
theorem dX0_fillWith_109 : decode cX0_fillWith 109 = .ok (.return_, 1) := by decide +kernel
theorem dX0_numbers_0 : decode cX0_numbers 0 = .ok (.iconst 0, 1) := by decide +kernel
theorem dX0_numbers_1 : decode cX0_numbers 1 = .ok (.istore_n 1, 1) := by decide +kernel
theorem dX0_numbers_2 : decode cX0_numbers 2 = .ok (.iconst 0, 1) := by decide +kernel
theorem dX0_numbers_3 : decode cX0_numbers 3 = .ok (.istore_n 2, 1) := by decide +kernel
theorem dX0_numbers_4 : decode cX0_numbers 4 = .ok (.iload_n 2, 1) := by decide +kernel
theorem dX0_numbers_5 : decode cX0_numbers 5 = .ok (.bipush 8, 2) := by decide +kernel
theorem dX0_numbers_7 : decode cX0_numbers 7 = .ok (.if_icmp .ge 18, 3) := by decide +kernel
theorem dX0_numbers_10 : decode cX0_numbers 10 = .ok (.iload_n 1, 1) := by decide +kernel
theorem dX0_numbers_11 : decode cX0_numbers 11 = .ok (.aload_n 0, 1) := by decide +kernel
theorem dX0_numbers_12 : decode cX0_numbers 12 = .ok (.getfield 19, 3) := by decide +kernel
theorem dX0_numbers_15 : decode cX0_numbers 15 = .ok (.iload_n 2, 1) := by decide +kernel
theorem dX0_numbers_16 : decode cX0_numbers 16 = .ok (.iaload, 1) := by decide +kernel
theorem dX0_numbers_17 : decode cX0_numbers 17 = .ok (.iadd, 1) := by decide +kernel
theorem dX0_numbers_18 : decode cX0_numbers 18 = .ok (.istore_n 1, 1) := by decide +kernel
theorem dX0_numbers_19 : decode cX0_numbers 19 = .ok (.iinc 2 1, 3) := by decide +kernel
theorem dX0_numbers_22 : decode cX0_numbers 22 = .ok (.goto (-18), 3) := by decide +kernel
theorem dX0_numbers_25 : decode cX0_numbers 25 = .ok (.iload_n 1, 1) := by decide +kernel
theorem dX0_numbers_26 : decode cX0_numbers 26 = .ok (.ireturn, 1) := by decide +kernel
set_option maxRecDepth 20000 in
theorem ggX0_boats_X0_boatsOfKind : GoodIn wsX0_boats wsX0_boatsOfKind := goodIn_r _ [5, 6, 7, 8, 9, 10, 11, 12, 13, 14] (by decide +kernel) (by decide +kernel)
set_option maxRecDepth 20000 in
theorem gX0_boats_X0_boatsOfKind : GoodIn wsX0_boats (wsV RX0 101 RX0 yX0_boatsOfKind wsX0_boatsOfKind) := goodIn_app (goodIn_of _ (by decide +kernel)) ggX0_boats_X0_boatsOfKind
theorem dX0_boats_0 : decode cX0_boats 0 = .ok (.aload_n 0, 1) := by decide +kernel
theorem dX0_boats_1 : decode cX0_boats 1 = .ok (.iconst 0, 1) := by decide +kernel
theorem dX0_boats_2 : decode cX0_boats 2 = .ok (.invokevirtual 101, 3) := by decide +kernel
theorem dX0_boats_5 : decode cX0_boats 5 = .ok (.aload_n 0, 1) := by decide +kernel
theorem dX0_boats_6 : decode cX0_boats 6 = .ok (.iconst 1, 1) := by decide +kernel
theorem dX0_boats_7 : decode cX0_boats 7 = .ok (.invokevirtual 101, 3) := by decide +kernel
theorem dX0_boats_10 : decode cX0_boats 10 = .ok (.iadd, 1) := by decide +kernel
theorem dX0_boats_11 : decode cX0_boats 11 = .ok (.aload_n 0, 1) := by decide +kernel
theorem dX0_boats_12 : decode cX0_boats 12 = .ok (.iconst 2, 1) := by decide +kernel
theorem dX0_boats_13 : decode cX0_boats 13 = .ok (.invokevirtual 101, 3) := by decide +kernel
theorem dX0_boats_16 : decode cX0_boats 16 = .ok (.iadd, 1) := by decide +kernel
theorem dX0_boats_17 : decode cX0_boats 17 = .ok (.ireturn, 1) := by decide +kernel
theorem dX0_boatsOfKind_0 : decode cX0_boatsOfKind 0 = .ok (.iconst 0, 1) := by decide +kernel
theorem dX0_boatsOfKind_1 : decode cX0_boatsOfKind 1 = .ok (.istore_n 2, 1) := by decide +kernel
theorem dX0_boatsOfKind_2 : decode cX0_boatsOfKind 2 = .ok (.iconst 0, 1) := by decide +kernel
theorem dX0_boatsOfKind_3 : decode cX0_boatsOfKind 3 = .ok (.istore_n 3, 1) := by decide +kernel
theorem dX0_boatsOfKind_4 : decode cX0_boatsOfKind 4 = .ok (.iload_n 3, 1) := by decide +kernel
theorem dX0_boatsOfKind_5 : decode cX0_boatsOfKind 5 = .ok (.bipush 8, 2) := by decide +kernel
theorem dX0_boatsOfKind_7 : decode cX0_boatsOfKind 7 = .ok (.if_icmp .ge 31, 3) := by decide +kernel
theorem dX0_boatsOfKind_10 : decode cX0_boatsOfKind 10 = .ok (.aload_n 0, 1) := by decide +kernel
theorem dX0_boatsOfKind_11 : decode cX0_boatsOfKind 11 = .ok (.getfield 19, 3) := by decide +kernel
theorem dX0_boatsOfKind_14 : decode cX0_boatsOfKind 14 = .ok (.iload_n 3, 1) := by decide +kernel
theorem dX0_boatsOfKind_15 : decode cX0_boatsOfKind 15 = .ok (.iaload, 1) := by decide +kernel
theorem dX0_boatsOfKind_16 : decode cX0_boatsOfKind 16 = .ok (.ifCond .le 16, 3) := by decide +kernel
theorem dX0_boatsOfKind_19 : decode cX0_boatsOfKind 19 = .ok (.aload_n 0, 1) := by decide +kernel
theorem dX0_boatsOfKind_20 : decode cX0_boatsOfKind 20 = .ok (.getfield 15, 3) := by decide +kernel
theorem dX0_boatsOfKind_23 : decode cX0_boatsOfKind 23 = .ok (.iload_n 3, 1) := by decide +kernel
theorem dX0_boatsOfKind_24 : decode cX0_boatsOfKind 24 = .ok (.iaload, 1) := by decide +kernel
theorem dX0_boatsOfKind_25 : decode cX0_boatsOfKind 25 = .ok (.iload_n 1, 1) := by decide +kernel
theorem dX0_boatsOfKind_26 : decode cX0_boatsOfKind 26 = .ok (.if_icmp .ne 6, 3) := by decide +kernel
theorem dX0_boatsOfKind_29 : decode cX0_boatsOfKind 29 = .ok (.iinc 2 1, 3) := by decide +kernel
theorem dX0_boatsOfKind_32 : decode cX0_boatsOfKind 32 = .ok (.iinc 3 1, 3) := by decide +kernel
theorem dX0_boatsOfKind_35 : decode cX0_boatsOfKind 35 = .ok (.goto (-31), 3) := by decide +kernel
theorem dX0_boatsOfKind_38 : decode cX0_boatsOfKind 38 = .ok (.iload_n 2, 1) := by decide +kernel
theorem dX0_boatsOfKind_39 : decode cX0_boatsOfKind 39 = .ok (.ireturn, 1) := by decide +kernel
set_option maxRecDepth 20000 in
theorem ggX0_units_X0_unitsAs : GoodIn wsX0_units wsX0_unitsAs := goodIn_r _ [6, 7, 8, 9, 10, 11, 12, 13, 14, 15] (by decide +kernel) (by decide +kernel)
set_option maxRecDepth 20000 in
theorem gX0_units_X0_unitsAs : GoodIn wsX0_units (wsV RX0 91 RX0 yX0_unitsAs wsX0_unitsAs) := goodIn_app (goodIn_of _ (by decide +kernel)) ggX0_units_X0_unitsAs
theorem dX0_units_0 : decode cX0_units 0 = .ok (.iconst 0, 1) := by decide +kernel
theorem dX0_units_1 : decode cX0_units 1 = .ok (.istore_n 1, 1) := by decide +kernel
theorem dX0_units_2 : decode cX0_units 2 = .ok (.iconst 0, 1) := by decide +kernel
theorem dX0_units_3 : decode cX0_units 3 = .ok (.istore_n 2, 1) := by decide +kernel
theorem dX0_units_4 : decode cX0_units 4 = .ok (.iload_n 2, 1) := by decide +kernel
theorem dX0_units_5 : decode cX0_units 5 = .ok (.bipush 8, 2) := by decide +kernel
theorem dX0_units_7 : decode cX0_units 7 = .ok (.if_icmp .ge 23, 3) := by decide +kernel
theorem dX0_units_10 : decode cX0_units 10 = .ok (.iload_n 1, 1) := by decide +kernel
theorem dX0_units_11 : decode cX0_units 11 = .ok (.aload_n 0, 1) := by decide +kernel
theorem dX0_units_12 : decode cX0_units 12 = .ok (.iload_n 2, 1) := by decide +kernel
theorem dX0_units_13 : decode cX0_units 13 = .ok (.aload_n 0, 1) := by decide +kernel
theorem dX0_units_14 : decode cX0_units 14 = .ok (.getfield 15, 3) := by decide +kernel
theorem dX0_units_17 : decode cX0_units 17 = .ok (.iload_n 2, 1) := by decide +kernel
theorem dX0_units_18 : decode cX0_units 18 = .ok (.iaload, 1) := by decide +kernel
theorem dX0_units_19 : decode cX0_units 19 = .ok (.invokevirtual 91, 3) := by decide +kernel
theorem dX0_units_22 : decode cX0_units 22 = .ok (.iadd, 1) := by decide +kernel
theorem dX0_units_23 : decode cX0_units 23 = .ok (.istore_n 1, 1) := by decide +kernel
theorem dX0_units_24 : decode cX0_units 24 = .ok (.iinc 2 1, 3) := by decide +kernel
theorem dX0_units_27 : decode cX0_units 27 = .ok (.goto (-23), 3) := by decide +kernel
theorem dX0_units_30 : decode cX0_units 30 = .ok (.iload_n 1, 1) := by decide +kernel
theorem dX0_units_31 : decode cX0_units 31 = .ok (.ireturn, 1) := by decide +kernel
set_option maxRecDepth 20000 in
theorem ggX0_bestUnits_X0_bestKind : GoodIn wsX0_bestUnits wsX0_bestKind := goodIn_r _ [5, 6, 7, 8, 4, 9, 10, 11, 12, 13, 14, 15, 16, 17, 18, 19, 20, 21, 22] (by decide +kernel) (by decide +kernel)
set_option maxRecDepth 20000 in
theorem gX0_bestUnits_X0_bestKind : GoodIn wsX0_bestUnits (wsV RX0 88 RX0 yX0_bestKind wsX0_bestKind) := goodIn_app (goodIn_of _ (by decide +kernel)) ggX0_bestUnits_X0_bestKind
set_option maxRecDepth 20000 in
theorem ggX0_bestUnits_X0_unitsAs : GoodIn wsX0_bestUnits wsX0_unitsAs := goodIn_r _ [15, 10, 11, 16, 17, 18, 19, 20, 21, 22] (by decide +kernel) (by decide +kernel)
set_option maxRecDepth 20000 in
theorem gX0_bestUnits_X0_unitsAs : GoodIn wsX0_bestUnits (wsV RX0 91 RX0 yX0_unitsAs wsX0_unitsAs) := goodIn_app (goodIn_of _ (by decide +kernel)) ggX0_bestUnits_X0_unitsAs
theorem dX0_bestUnits_0 : decode cX0_bestUnits 0 = .ok (.iconst 0, 1) := by decide +kernel
theorem dX0_bestUnits_1 : decode cX0_bestUnits 1 = .ok (.istore_n 1, 1) := by decide +kernel
theorem dX0_bestUnits_2 : decode cX0_bestUnits 2 = .ok (.iconst 0, 1) := by decide +kernel
theorem dX0_bestUnits_3 : decode cX0_bestUnits 3 = .ok (.istore_n 2, 1) := by decide +kernel
theorem dX0_bestUnits_4 : decode cX0_bestUnits 4 = .ok (.iload_n 2, 1) := by decide +kernel
theorem dX0_bestUnits_5 : decode cX0_bestUnits 5 = .ok (.bipush 8, 2) := by decide +kernel
theorem dX0_bestUnits_7 : decode cX0_bestUnits 7 = .ok (.if_icmp .ge 22, 3) := by decide +kernel
theorem dX0_bestUnits_10 : decode cX0_bestUnits 10 = .ok (.iload_n 1, 1) := by decide +kernel
theorem dX0_bestUnits_11 : decode cX0_bestUnits 11 = .ok (.aload_n 0, 1) := by decide +kernel
theorem dX0_bestUnits_12 : decode cX0_bestUnits 12 = .ok (.iload_n 2, 1) := by decide +kernel
theorem dX0_bestUnits_13 : decode cX0_bestUnits 13 = .ok (.aload_n 0, 1) := by decide +kernel
theorem dX0_bestUnits_14 : decode cX0_bestUnits 14 = .ok (.iload_n 2, 1) := by decide +kernel
theorem dX0_bestUnits_15 : decode cX0_bestUnits 15 = .ok (.invokevirtual 88, 3) := by decide +kernel
theorem dX0_bestUnits_18 : decode cX0_bestUnits 18 = .ok (.invokevirtual 91, 3) := by decide +kernel
theorem dX0_bestUnits_21 : decode cX0_bestUnits 21 = .ok (.iadd, 1) := by decide +kernel
theorem dX0_bestUnits_22 : decode cX0_bestUnits 22 = .ok (.istore_n 1, 1) := by decide +kernel
theorem dX0_bestUnits_23 : decode cX0_bestUnits 23 = .ok (.iinc 2 1, 3) := by decide +kernel
theorem dX0_bestUnits_26 : decode cX0_bestUnits 26 = .ok (.goto (-22), 3) := by decide +kernel
theorem dX0_bestUnits_29 : decode cX0_bestUnits 29 = .ok (.iload_n 1, 1) := by decide +kernel
theorem dX0_bestUnits_30 : decode cX0_bestUnits 30 = .ok (.ireturn, 1) := by decide +kernel
theorem dX0_allRuns_0 : decode cX0_allRuns 0 = .ok (.iconst 0, 1) := by decide +kernel
theorem dX0_allRuns_1 : decode cX0_allRuns 1 = .ok (.istore_n 1, 1) := by decide +kernel
theorem dX0_allRuns_2 : decode cX0_allRuns 2 = .ok (.iconst 0, 1) := by decide +kernel
theorem dX0_allRuns_3 : decode cX0_allRuns 3 = .ok (.istore_n 2, 1) := by decide +kernel
theorem dX0_allRuns_4 : decode cX0_allRuns 4 = .ok (.iload_n 2, 1) := by decide +kernel
theorem dX0_allRuns_5 : decode cX0_allRuns 5 = .ok (.bipush 8, 2) := by decide +kernel
theorem dX0_allRuns_7 : decode cX0_allRuns 7 = .ok (.if_icmp .ge 18, 3) := by decide +kernel
theorem dX0_allRuns_10 : decode cX0_allRuns 10 = .ok (.iload_n 1, 1) := by decide +kernel
theorem dX0_allRuns_11 : decode cX0_allRuns 11 = .ok (.aload_n 0, 1) := by decide +kernel
theorem dX0_allRuns_12 : decode cX0_allRuns 12 = .ok (.getfield 22, 3) := by decide +kernel
theorem dX0_allRuns_15 : decode cX0_allRuns 15 = .ok (.iload_n 2, 1) := by decide +kernel
theorem dX0_allRuns_16 : decode cX0_allRuns 16 = .ok (.iaload, 1) := by decide +kernel
theorem dX0_allRuns_17 : decode cX0_allRuns 17 = .ok (.iadd, 1) := by decide +kernel
theorem dX0_allRuns_18 : decode cX0_allRuns 18 = .ok (.istore_n 1, 1) := by decide +kernel
theorem dX0_allRuns_19 : decode cX0_allRuns 19 = .ok (.iinc 2 1, 3) := by decide +kernel
theorem dX0_allRuns_22 : decode cX0_allRuns 22 = .ok (.goto (-18), 3) := by decide +kernel
theorem dX0_allRuns_25 : decode cX0_allRuns 25 = .ok (.iload_n 1, 1) := by decide +kernel
theorem dX0_allRuns_26 : decode cX0_allRuns 26 = .ok (.ireturn, 1) := by decide +kernel
set_option maxRecDepth 20000 in
theorem ggX0_numbersBelow_X4_isNumber : GoodIn wsX0_numbersBelow wsX4_isNumber := goodIn_r _ [4] (by decide +kernel) (by decide +kernel)
set_option maxRecDepth 20000 in
theorem gX0_numbersBelow_X4_isNumber_n54 : GoodIn wsX0_numbersBelow (wsX4_isNumber) := ggX0_numbersBelow_X4_isNumber
set_option maxRecDepth 20000 in
theorem ggX0_numbersBelow_J13_bitCount_95d88 : GoodIn wsX0_numbersBelow wsJ13_bitCount_95d88 := goodIn_r _ [8, 9, 10, 11] (by decide +kernel) (by decide +kernel)
set_option maxRecDepth 20000 in
theorem gX0_numbersBelow_J13_bitCount_95d88 : GoodIn wsX0_numbersBelow (va_wsS RX0 104 yJ13_bitCount_95d88 wsJ13_bitCount_95d88) := goodIn_app (goodIn_of _ (by decide +kernel)) ggX0_numbersBelow_J13_bitCount_95d88
theorem dX0_numbersBelow_0 : decode cX0_numbersBelow 0 = .ok (.iload_n 1, 1) := by decide +kernel
theorem dX0_numbersBelow_1 : decode cX0_numbersBelow 1 = .ok (.invokestatic 54, 3) := by decide +kernel
theorem dX0_numbersBelow_4 : decode cX0_numbersBelow 4 = .ok (.ifCond .ne 5, 3) := by decide +kernel
theorem dX0_numbersBelow_7 : decode cX0_numbersBelow 7 = .ok (.iconst 0, 1) := by decide +kernel
theorem dX0_numbersBelow_8 : decode cX0_numbersBelow 8 = .ok (.ireturn, 1) := by decide +kernel
theorem dX0_numbersBelow_9 : decode cX0_numbersBelow 9 = .ok (.iload_n 1, 1) := by decide +kernel
theorem dX0_numbersBelow_10 : decode cX0_numbersBelow 10 = .ok (.bipush 64, 2) := by decide +kernel
theorem dX0_numbersBelow_12 : decode cX0_numbersBelow 12 = .ok (.idiv, 1) := by decide +kernel
theorem dX0_numbersBelow_13 : decode cX0_numbersBelow 13 = .ok (.istore_n 2, 1) := by decide +kernel
theorem dX0_numbersBelow_14 : decode cX0_numbersBelow 14 = .ok (.iconst 0, 1) := by decide +kernel
theorem dX0_numbersBelow_15 : decode cX0_numbersBelow 15 = .ok (.istore_n 3, 1) := by decide +kernel
theorem dX0_numbersBelow_16 : decode cX0_numbersBelow 16 = .ok (.iconst 0, 1) := by decide +kernel
theorem dX0_numbersBelow_17 : decode cX0_numbersBelow 17 = .ok (.istore 4, 2) := by decide +kernel
theorem dX0_numbersBelow_19 : decode cX0_numbersBelow 19 = .ok (.iload 4, 2) := by decide +kernel
theorem dX0_numbersBelow_21 : decode cX0_numbersBelow 21 = .ok (.iload_n 2, 1) := by decide +kernel
theorem dX0_numbersBelow_22 : decode cX0_numbersBelow 22 = .ok (.if_icmp .ge 22, 3) := by decide +kernel
theorem dX0_numbersBelow_25 : decode cX0_numbersBelow 25 = .ok (.iload_n 3, 1) := by decide +kernel
theorem dX0_numbersBelow_26 : decode cX0_numbersBelow 26 = .ok (.aload_n 0, 1) := by decide +kernel
theorem dX0_numbersBelow_27 : decode cX0_numbersBelow 27 = .ok (.getfield 9, 3) := by decide +kernel
theorem dX0_numbersBelow_30 : decode cX0_numbersBelow 30 = .ok (.iload 4, 2) := by decide +kernel
theorem dX0_numbersBelow_32 : decode cX0_numbersBelow 32 = .ok (.laload, 1) := by decide +kernel
theorem dX0_numbersBelow_33 : decode cX0_numbersBelow 33 = .ok (.invokestatic 104, 3) := by decide +kernel
theorem dX0_numbersBelow_36 : decode cX0_numbersBelow 36 = .ok (.iadd, 1) := by decide +kernel
theorem dX0_numbersBelow_37 : decode cX0_numbersBelow 37 = .ok (.istore_n 3, 1) := by decide +kernel
theorem dX0_numbersBelow_38 : decode cX0_numbersBelow 38 = .ok (.iinc 4 1, 3) := by decide +kernel
theorem dX0_numbersBelow_41 : decode cX0_numbersBelow 41 = .ok (.goto (-22), 3) := by decide +kernel
theorem dX0_numbersBelow_44 : decode cX0_numbersBelow 44 = .ok (.lconst 1, 1) := by decide +kernel
theorem dX0_numbersBelow_45 : decode cX0_numbersBelow 45 = .ok (.iload_n 1, 1) := by decide +kernel
theorem dX0_numbersBelow_46 : decode cX0_numbersBelow 46 = .ok (.bipush 64, 2) := by decide +kernel
theorem dX0_numbersBelow_48 : decode cX0_numbersBelow 48 = .ok (.irem, 1) := by decide +kernel
theorem dX0_numbersBelow_49 : decode cX0_numbersBelow 49 = .ok (.lshl, 1) := by decide +kernel
theorem dX0_numbersBelow_50 : decode cX0_numbersBelow 50 = .ok (.lconst 1, 1) := by decide +kernel
theorem dX0_numbersBelow_51 : decode cX0_numbersBelow 51 = .ok (.lsub, 1) := by decide +kernel
theorem dX0_numbersBelow_52 : decode cX0_numbersBelow 52 = .ok (.lstore 4, 2) := by decide +kernel
theorem dX0_numbersBelow_54 : decode cX0_numbersBelow 54 = .ok (.iload_n 3, 1) := by decide +kernel
theorem dX0_numbersBelow_55 : decode cX0_numbersBelow 55 = .ok (.aload_n 0, 1) := by decide +kernel
theorem dX0_numbersBelow_56 : decode cX0_numbersBelow 56 = .ok (.getfield 9, 3) := by decide +kernel
theorem dX0_numbersBelow_59 : decode cX0_numbersBelow 59 = .ok (.iload_n 2, 1) := by decide +kernel
theorem dX0_numbersBelow_60 : decode cX0_numbersBelow 60 = .ok (.laload, 1) := by decide +kernel
theorem dX0_numbersBelow_61 : decode cX0_numbersBelow 61 = .ok (.lload 4, 2) := by decide +kernel
theorem dX0_numbersBelow_63 : decode cX0_numbersBelow 63 = .ok (.land, 1) := by decide +kernel
theorem dX0_numbersBelow_64 : decode cX0_numbersBelow 64 = .ok (.invokestatic 104, 3) := by decide +kernel
theorem dX0_numbersBelow_67 : decode cX0_numbersBelow 67 = .ok (.iadd, 1) := by decide +kernel
theorem dX0_numbersBelow_68 : decode cX0_numbersBelow 68 = .ok (.ireturn, 1) := by decide +kernel
set_option maxRecDepth 20000 in
theorem ggX0_numberAt_J13_bitCount_95d88 : GoodIn wsX0_numberAt wsJ13_bitCount_95d88 := goodIn_r _ [5, 6, 7, 8] (by decide +kernel) (by decide +kernel)
set_option maxRecDepth 20000 in
theorem gX0_numberAt_J13_bitCount_95d88 : GoodIn wsX0_numberAt (va_wsS RX0 104 yJ13_bitCount_95d88 wsJ13_bitCount_95d88) := goodIn_app (goodIn_of _ (by decide +kernel)) ggX0_numberAt_J13_bitCount_95d88
set_option maxRecDepth 20000 in
theorem ggX0_numberAt_X0_placeOfBit : GoodIn wsX0_numberAt wsX0_placeOfBit := goodIn_r _ [12, 2, 3, 4, 5, 6, 7, 8] (by decide +kernel) (by decide +kernel)
set_option maxRecDepth 20000 in
theorem gX0_numberAt_X0_placeOfBit : GoodIn wsX0_numberAt (va_wsS RX0 110 yX0_placeOfBit wsX0_placeOfBit) := goodIn_app (goodIn_of _ (by decide +kernel)) ggX0_numberAt_X0_placeOfBit
theorem dX0_numberAt_0 : decode cX0_numberAt 0 = .ok (.iload_n 1, 1) := by decide +kernel
theorem dX0_numberAt_1 : decode cX0_numberAt 1 = .ok (.ifCond .ge 6, 3) := by decide +kernel
theorem dX0_numberAt_4 : decode cX0_numberAt 4 = .ok (.bipush (-5), 2) := by decide +kernel
theorem dX0_numberAt_6 : decode cX0_numberAt 6 = .ok (.ireturn, 1) := by decide +kernel
theorem dX0_numberAt_7 : decode cX0_numberAt 7 = .ok (.iload_n 1, 1) := by decide +kernel
theorem dX0_numberAt_8 : decode cX0_numberAt 8 = .ok (.istore_n 2, 1) := by decide +kernel
theorem dX0_numberAt_9 : decode cX0_numberAt 9 = .ok (.iconst 0, 1) := by decide +kernel
theorem dX0_numberAt_10 : decode cX0_numberAt 10 = .ok (.istore_n 3, 1) := by decide +kernel
theorem dX0_numberAt_11 : decode cX0_numberAt 11 = .ok (.iload_n 3, 1) := by decide +kernel
theorem dX0_numberAt_12 : decode cX0_numberAt 12 = .ok (.bipush 32, 2) := by decide +kernel
theorem dX0_numberAt_14 : decode cX0_numberAt 14 = .ok (.if_icmp .ge 47, 3) := by decide +kernel
theorem dX0_numberAt_17 : decode cX0_numberAt 17 = .ok (.aload_n 0, 1) := by decide +kernel
theorem dX0_numberAt_18 : decode cX0_numberAt 18 = .ok (.getfield 9, 3) := by decide +kernel
theorem dX0_numberAt_21 : decode cX0_numberAt 21 = .ok (.iload_n 3, 1) := by decide +kernel
theorem dX0_numberAt_22 : decode cX0_numberAt 22 = .ok (.laload, 1) := by decide +kernel
theorem dX0_numberAt_23 : decode cX0_numberAt 23 = .ok (.invokestatic 104, 3) := by decide +kernel
theorem dX0_numberAt_26 : decode cX0_numberAt 26 = .ok (.istore 4, 2) := by decide +kernel
theorem dX0_numberAt_28 : decode cX0_numberAt 28 = .ok (.iload_n 2, 1) := by decide +kernel
theorem dX0_numberAt_29 : decode cX0_numberAt 29 = .ok (.iload 4, 2) := by decide +kernel
theorem dX0_numberAt_31 : decode cX0_numberAt 31 = .ok (.if_icmp .ge 19, 3) := by decide +kernel
theorem dX0_numberAt_34 : decode cX0_numberAt 34 = .ok (.iload_n 3, 1) := by decide +kernel
theorem dX0_numberAt_35 : decode cX0_numberAt 35 = .ok (.bipush 64, 2) := by decide +kernel
theorem dX0_numberAt_37 : decode cX0_numberAt 37 = .ok (.imul, 1) := by decide +kernel
theorem dX0_numberAt_38 : decode cX0_numberAt 38 = .ok (.aload_n 0, 1) := by decide +kernel
theorem dX0_numberAt_39 : decode cX0_numberAt 39 = .ok (.getfield 9, 3) := by decide +kernel
theorem dX0_numberAt_42 : decode cX0_numberAt 42 = .ok (.iload_n 3, 1) := by decide +kernel
theorem dX0_numberAt_43 : decode cX0_numberAt 43 = .ok (.laload, 1) := by decide +kernel
theorem dX0_numberAt_44 : decode cX0_numberAt 44 = .ok (.iload_n 2, 1) := by decide +kernel
theorem dX0_numberAt_45 : decode cX0_numberAt 45 = .ok (.invokestatic 110, 3) := by decide +kernel
theorem dX0_numberAt_48 : decode cX0_numberAt 48 = .ok (.iadd, 1) := by decide +kernel
theorem dX0_numberAt_49 : decode cX0_numberAt 49 = .ok (.ireturn, 1) := by decide +kernel
theorem dX0_numberAt_50 : decode cX0_numberAt 50 = .ok (.iload_n 2, 1) := by decide +kernel
theorem dX0_numberAt_51 : decode cX0_numberAt 51 = .ok (.iload 4, 2) := by decide +kernel
theorem dX0_numberAt_53 : decode cX0_numberAt 53 = .ok (.isub, 1) := by decide +kernel
theorem dX0_numberAt_54 : decode cX0_numberAt 54 = .ok (.istore_n 2, 1) := by decide +kernel
theorem dX0_numberAt_55 : decode cX0_numberAt 55 = .ok (.iinc 3 1, 3) := by decide +kernel
theorem dX0_numberAt_58 : decode cX0_numberAt 58 = .ok (.goto (-47), 3) := by decide +kernel
theorem dX0_numberAt_61 : decode cX0_numberAt 61 = .ok (.bipush (-5), 2) := by decide +kernel
theorem dX0_numberAt_63 : decode cX0_numberAt 63 = .ok (.ireturn, 1) := by decide +kernel
set_option maxRecDepth 20000 in
theorem ggX0_placeOfBit_J13_bitCount_95d88 : GoodIn wsX0_placeOfBit wsJ13_bitCount_95d88 := goodIn_r _ [4, 5, 6, 7] (by decide +kernel) (by decide +kernel)
set_option maxRecDepth 20000 in
theorem gX0_placeOfBit_J13_bitCount_95d88 : GoodIn wsX0_placeOfBit (va_wsS RX0 104 yJ13_bitCount_95d88 wsJ13_bitCount_95d88) := goodIn_app (goodIn_of _ (by decide +kernel)) ggX0_placeOfBit_J13_bitCount_95d88
theorem dX0_placeOfBit_0 : decode cX0_placeOfBit 0 = .ok (.lload_n 0, 1) := by decide +kernel
theorem dX0_placeOfBit_1 : decode cX0_placeOfBit 1 = .ok (.lstore_n 3, 1) := by decide +kernel
theorem dX0_placeOfBit_2 : decode cX0_placeOfBit 2 = .ok (.iconst 0, 1) := by decide +kernel
theorem dX0_placeOfBit_3 : decode cX0_placeOfBit 3 = .ok (.istore 5, 2) := by decide +kernel
theorem dX0_placeOfBit_5 : decode cX0_placeOfBit 5 = .ok (.iload 5, 2) := by decide +kernel
theorem dX0_placeOfBit_7 : decode cX0_placeOfBit 7 = .ok (.iload_n 2, 1) := by decide +kernel
theorem dX0_placeOfBit_8 : decode cX0_placeOfBit 8 = .ok (.if_icmp .ge 15, 3) := by decide +kernel
theorem dX0_placeOfBit_11 : decode cX0_placeOfBit 11 = .ok (.lload_n 3, 1) := by decide +kernel
theorem dX0_placeOfBit_12 : decode cX0_placeOfBit 12 = .ok (.lload_n 3, 1) := by decide +kernel
theorem dX0_placeOfBit_13 : decode cX0_placeOfBit 13 = .ok (.lconst 1, 1) := by decide +kernel
theorem dX0_placeOfBit_14 : decode cX0_placeOfBit 14 = .ok (.lsub, 1) := by decide +kernel
theorem dX0_placeOfBit_15 : decode cX0_placeOfBit 15 = .ok (.land, 1) := by decide +kernel
theorem dX0_placeOfBit_16 : decode cX0_placeOfBit 16 = .ok (.lstore_n 3, 1) := by decide +kernel
theorem dX0_placeOfBit_17 : decode cX0_placeOfBit 17 = .ok (.iinc 5 1, 3) := by decide +kernel
theorem dX0_placeOfBit_20 : decode cX0_placeOfBit 20 = .ok (.goto (-15), 3) := by decide +kernel
theorem dX0_placeOfBit_23 : decode cX0_placeOfBit 23 = .ok (.lload_n 3, 1) := by decide +kernel
theorem dX0_placeOfBit_24 : decode cX0_placeOfBit 24 = .ok (.lload_n 3, 1) := by decide +kernel
theorem dX0_placeOfBit_25 : decode cX0_placeOfBit 25 = .ok (.lneg, 1) := by decide +kernel
theorem dX0_placeOfBit_26 : decode cX0_placeOfBit 26 = .ok (.land, 1) := by decide +kernel
theorem dX0_placeOfBit_27 : decode cX0_placeOfBit 27 = .ok (.lconst 1, 1) := by decide +kernel
theorem dX0_placeOfBit_28 : decode cX0_placeOfBit 28 = .ok (.lsub, 1) := by decide +kernel
theorem dX0_placeOfBit_29 : decode cX0_placeOfBit 29 = .ok (.invokestatic 104, 3) := by decide +kernel
theorem dX0_placeOfBit_32 : decode cX0_placeOfBit 32 = .ok (.ireturn, 1) := by decide +kernel
set_option maxRecDepth 20000 in
theorem ggX0_firstFrom_X0_numbersBelow : GoodIn wsX0_firstFrom wsX0_numbersBelow := goodIn_r _ [5, 6, 7, 8, 9, 10, 11, 12, 13, 14, 15, 16, 24, 25, 26, 27, 28, 29, 30] (by decide +kernel) (by decide +kernel)
set_option maxRecDepth 20000 in
theorem gX0_firstFrom_X0_numbersBelow : GoodIn wsX0_firstFrom (wsV RX0 114 RX0 yX0_numbersBelow wsX0_numbersBelow) := goodIn_app (goodIn_of _ (by decide +kernel)) ggX0_firstFrom_X0_numbersBelow
set_option maxRecDepth 20000 in
theorem ggX0_firstFrom_X0_numberAt : GoodIn wsX0_firstFrom wsX0_numberAt := goodIn_r _ [20, 6, 10, 11, 12, 13, 14, 15, 16, 21, 22, 4, 23, 24, 25, 26, 27, 28, 29, 30] (by decide +kernel) (by decide +kernel)
set_option maxRecDepth 20000 in
theorem gX0_firstFrom_X0_numberAt : GoodIn wsX0_firstFrom (wsV RX0 117 RX0 yX0_numberAt wsX0_numberAt) := goodIn_app (goodIn_of _ (by decide +kernel)) ggX0_firstFrom_X0_numberAt
theorem dX0_firstFrom_0 : decode cX0_firstFrom 0 = .ok (.aload_n 0, 1) := by decide +kernel
theorem dX0_firstFrom_1 : decode cX0_firstFrom 1 = .ok (.aload_n 0, 1) := by decide +kernel
theorem dX0_firstFrom_2 : decode cX0_firstFrom 2 = .ok (.iload_n 1, 1) := by decide +kernel
theorem dX0_firstFrom_3 : decode cX0_firstFrom 3 = .ok (.invokevirtual 114, 3) := by decide +kernel
theorem dX0_firstFrom_6 : decode cX0_firstFrom 6 = .ok (.invokevirtual 117, 3) := by decide +kernel
theorem dX0_firstFrom_9 : decode cX0_firstFrom 9 = .ok (.ireturn, 1) := by decide +kernel
set_option maxRecDepth 20000 in
theorem ggX0_firstGap_X0_holds : GoodIn wsX0_firstGap wsX0_holds := goodIn_r _ [5, 6, 7, 8, 9, 10, 11, 12, 13, 14, 15, 16] (by decide +kernel) (by decide +kernel)
set_option maxRecDepth 20000 in
theorem gX0_firstGap_X0_holds : GoodIn wsX0_firstGap (wsV RX0 58 RX0 yX0_holds wsX0_holds) := goodIn_app (goodIn_of _ (by decide +kernel)) ggX0_firstGap_X0_holds
theorem dX0_firstGap_0 : decode cX0_firstGap 0 = .ok (.iconst 0, 1) := by decide +kernel
theorem dX0_firstGap_1 : decode cX0_firstGap 1 = .ok (.istore_n 2, 1) := by decide +kernel
theorem dX0_firstGap_2 : decode cX0_firstGap 2 = .ok (.iconst 0, 1) := by decide +kernel
theorem dX0_firstGap_3 : decode cX0_firstGap 3 = .ok (.istore_n 3, 1) := by decide +kernel
theorem dX0_firstGap_4 : decode cX0_firstGap 4 = .ok (.iload_n 3, 1) := by decide +kernel
theorem dX0_firstGap_5 : decode cX0_firstGap 5 = .ok (.sipush 2048, 3) := by decide +kernel
theorem dX0_firstGap_8 : decode cX0_firstGap 8 = .ok (.if_icmp .ge 35, 3) := by decide +kernel
theorem dX0_firstGap_11 : decode cX0_firstGap 11 = .ok (.aload_n 0, 1) := by decide +kernel
theorem dX0_firstGap_12 : decode cX0_firstGap 12 = .ok (.iload_n 3, 1) := by decide +kernel
theorem dX0_firstGap_13 : decode cX0_firstGap 13 = .ok (.invokevirtual 58, 3) := by decide +kernel
theorem dX0_firstGap_16 : decode cX0_firstGap 16 = .ok (.ifCond .eq 10, 3) := by decide +kernel
theorem dX0_firstGap_19 : decode cX0_firstGap 19 = .ok (.iload_n 3, 1) := by decide +kernel
theorem dX0_firstGap_20 : decode cX0_firstGap 20 = .ok (.iconst 1, 1) := by decide +kernel
theorem dX0_firstGap_21 : decode cX0_firstGap 21 = .ok (.iadd, 1) := by decide +kernel
theorem dX0_firstGap_22 : decode cX0_firstGap 22 = .ok (.istore_n 2, 1) := by decide +kernel
theorem dX0_firstGap_23 : decode cX0_firstGap 23 = .ok (.goto 14, 3) := by decide +kernel
theorem dX0_firstGap_26 : decode cX0_firstGap 26 = .ok (.iload_n 3, 1) := by decide +kernel
theorem dX0_firstGap_27 : decode cX0_firstGap 27 = .ok (.iload_n 2, 1) := by decide +kernel
theorem dX0_firstGap_28 : decode cX0_firstGap 28 = .ok (.isub, 1) := by decide +kernel
theorem dX0_firstGap_29 : decode cX0_firstGap 29 = .ok (.iconst 1, 1) := by decide +kernel
theorem dX0_firstGap_30 : decode cX0_firstGap 30 = .ok (.iadd, 1) := by decide +kernel
theorem dX0_firstGap_31 : decode cX0_firstGap 31 = .ok (.iload_n 1, 1) := by decide +kernel
theorem dX0_firstGap_32 : decode cX0_firstGap 32 = .ok (.if_icmp .lt 5, 3) := by decide +kernel
theorem dX0_firstGap_35 : decode cX0_firstGap 35 = .ok (.iload_n 2, 1) := by decide +kernel
theorem dX0_firstGap_36 : decode cX0_firstGap 36 = .ok (.ireturn, 1) := by decide +kernel
theorem dX0_firstGap_37 : decode cX0_firstGap 37 = .ok (.iinc 3 1, 3) := by decide +kernel
theorem dX0_firstGap_40 : decode cX0_firstGap 40 = .ok (.goto (-36), 3) := by decide +kernel
theorem dX0_firstGap_43 : decode cX0_firstGap 43 = .ok (.bipush (-5), 2) := by decide +kernel
theorem dX0_firstGap_45 : decode cX0_firstGap 45 = .ok (.ireturn, 1) := by decide +kernel
set_option maxRecDepth 20000 in
theorem ggX1_init_X0_init : GoodIn wsX1_init wsX0_init := goodIn_r _ [10, 11, 2, 3, 12, 13, 14, 15, 16, 17, 20, 21, 22, 23, 24, 25, 26] (by decide +kernel) (by decide +kernel)
set_option maxRecDepth 20000 in
theorem gX1_init_X0_init : GoodIn wsX1_init (wsX0_init) := ggX1_init_X0_init
theorem dX1_init_0 : decode cX1_init 0 = .ok (.aload_n 0, 1) := by decide +kernel
theorem dX1_init_1 : decode cX1_init 1 = .ok (.invokespecial 3, 3) := by decide +kernel
theorem dX1_init_4 : decode cX1_init 4 = .ok (.aload_n 0, 1) := by decide +kernel
theorem dX1_init_5 : decode cX1_init 5 = .ok (.bipush 6, 2) := by decide +kernel
theorem dX1_init_7 : decode cX1_init 7 = .ok (.anewarray 9, 3) := by decide +kernel
theorem dX1_init_10 : decode cX1_init 10 = .ok (.putfield 11, 3) := by decide +kernel
theorem dX1_init_13 : decode cX1_init 13 = .ok (.iconst 0, 1) := by decide +kernel
theorem dX1_init_14 : decode cX1_init 14 = .ok (.istore_n 1, 1) := by decide +kernel
theorem dX1_init_15 : decode cX1_init 15 = .ok (.iload_n 1, 1) := by decide +kernel
theorem dX1_init_16 : decode cX1_init 16 = .ok (.bipush 6, 2) := by decide +kernel
theorem dX1_init_18 : decode cX1_init 18 = .ok (.if_icmp .ge 22, 3) := by decide +kernel
theorem dX1_init_21 : decode cX1_init 21 = .ok (.aload_n 0, 1) := by decide +kernel
theorem dX1_init_22 : decode cX1_init 22 = .ok (.getfield 11, 3) := by decide +kernel
theorem dX1_init_25 : decode cX1_init 25 = .ok (.iload_n 1, 1) := by decide +kernel
theorem dX1_init_26 : decode cX1_init 26 = .ok (.new 9, 3) := by decide +kernel
theorem dX1_init_29 : decode cX1_init 29 = .ok (.dup, 1) := by decide +kernel
theorem dX1_init_30 : decode cX1_init 30 = .ok (.invokespecial 17, 3) := by decide +kernel
theorem dX1_init_33 : decode cX1_init 33 = .ok (.aastore, 1) := by decide +kernel
theorem dX1_init_34 : decode cX1_init 34 = .ok (.iinc 1 1, 3) := by decide +kernel
theorem dX1_init_37 : decode cX1_init 37 = .ok (.goto (-22), 3) := by decide +kernel
theorem dX1_init_40 : decode cX1_init 40 = .ok (.return_, 1) := by decide +kernel
set_option maxRecDepth 20000 in
theorem ggX1_copyFrom_X0_copyFrom : GoodIn wsX1_copyFrom wsX0_copyFrom := goodIn_r _ [7, 8, 9, 10, 11, 12, 13, 14, 15, 16, 17, 18, 21, 22, 23, 24, 25, 26, 27] (by decide +kernel) (by decide +kernel)
set_option maxRecDepth 20000 in
theorem gX1_copyFrom_X0_copyFrom : GoodIn wsX1_copyFrom (wsV RX1 22 RX0 yX0_copyFrom wsX0_copyFrom) := goodIn_app (goodIn_of _ (by decide +kernel)) ggX1_copyFrom_X0_copyFrom
theorem dX1_copyFrom_0 : decode cX1_copyFrom 0 = .ok (.aload_n 0, 1) := by decide +kernel
theorem dX1_copyFrom_1 : decode cX1_copyFrom 1 = .ok (.aload_n 1, 1) := by decide +kernel
theorem dX1_copyFrom_2 : decode cX1_copyFrom 2 = .ok (.getfield 18, 3) := by decide +kernel
theorem dX1_copyFrom_5 : decode cX1_copyFrom 5 = .ok (.putfield 18, 3) := by decide +kernel
theorem dX1_copyFrom_8 : decode cX1_copyFrom 8 = .ok (.iconst 0, 1) := by decide +kernel
theorem dX1_copyFrom_9 : decode cX1_copyFrom 9 = .ok (.istore_n 2, 1) := by decide +kernel
theorem dX1_copyFrom_10 : decode cX1_copyFrom 10 = .ok (.iload_n 2, 1) := by decide +kernel
theorem dX1_copyFrom_11 : decode cX1_copyFrom 11 = .ok (.aload_n 0, 1) := by decide +kernel
theorem dX1_copyFrom_12 : decode cX1_copyFrom 12 = .ok (.getfield 18, 3) := by decide +kernel
theorem dX1_copyFrom_15 : decode cX1_copyFrom 15 = .ok (.if_icmp .ge 24, 3) := by decide +kernel
theorem dX1_copyFrom_18 : decode cX1_copyFrom 18 = .ok (.aload_n 0, 1) := by decide +kernel
theorem dX1_copyFrom_19 : decode cX1_copyFrom 19 = .ok (.getfield 11, 3) := by decide +kernel
theorem dX1_copyFrom_22 : decode cX1_copyFrom 22 = .ok (.iload_n 2, 1) := by decide +kernel
theorem dX1_copyFrom_23 : decode cX1_copyFrom 23 = .ok (.aaload, 1) := by decide +kernel
theorem dX1_copyFrom_24 : decode cX1_copyFrom 24 = .ok (.aload_n 1, 1) := by decide +kernel
theorem dX1_copyFrom_25 : decode cX1_copyFrom 25 = .ok (.getfield 11, 3) := by decide +kernel
theorem dX1_copyFrom_28 : decode cX1_copyFrom 28 = .ok (.iload_n 2, 1) := by decide +kernel
theorem dX1_copyFrom_29 : decode cX1_copyFrom 29 = .ok (.aaload, 1) := by decide +kernel
theorem dX1_copyFrom_30 : decode cX1_copyFrom 30 = .ok (.invokevirtual 22, 3) := by decide +kernel
theorem dX1_copyFrom_33 : decode cX1_copyFrom 33 = .ok (.iinc 2 1, 3) := by decide +kernel
theorem dX1_copyFrom_36 : decode cX1_copyFrom 36 = .ok (.goto (-26), 3) := by decide +kernel
theorem dX1_copyFrom_39 : decode cX1_copyFrom 39 = .ok (.return_, 1) := by decide +kernel
set_option maxRecDepth 20000 in
theorem ggX1_open_X0_begin : GoodIn wsX1_open wsX0_begin := goodIn_r _ [7, 8, 9, 10, 11, 12, 13, 6, 14, 15, 16, 17, 18, 19, 20, 21, 22, 23, 24, 25, 28, 29, 30, 31, 32, 33, 34] (by decide +kernel) (by decide +kernel)
set_option maxRecDepth 20000 in
theorem gX1_open_X0_begin : GoodIn wsX1_open (wsV RX1 26 RX0 yX0_begin wsX0_begin) := goodIn_app (goodIn_of _ (by decide +kernel)) ggX1_open_X0_begin
theorem dX1_open_0 : decode cX1_open 0 = .ok (.aload_n 0, 1) := by decide +kernel
theorem dX1_open_1 : decode cX1_open 1 = .ok (.getfield 18, 3) := by decide +kernel
theorem dX1_open_4 : decode cX1_open 4 = .ok (.bipush 6, 2) := by decide +kernel
theorem dX1_open_6 : decode cX1_open 6 = .ok (.if_icmp .lt 6, 3) := by decide +kernel
theorem dX1_open_9 : decode cX1_open 9 = .ok (.bipush (-3), 2) := by decide +kernel
theorem dX1_open_11 : decode cX1_open 11 = .ok (.ireturn, 1) := by decide +kernel
theorem dX1_open_12 : decode cX1_open 12 = .ok (.aload_n 0, 1) := by decide +kernel
theorem dX1_open_13 : decode cX1_open 13 = .ok (.getfield 11, 3) := by decide +kernel
theorem dX1_open_16 : decode cX1_open 16 = .ok (.aload_n 0, 1) := by decide +kernel
theorem dX1_open_17 : decode cX1_open 17 = .ok (.getfield 18, 3) := by decide +kernel
theorem dX1_open_20 : decode cX1_open 20 = .ok (.aaload, 1) := by decide +kernel
theorem dX1_open_21 : decode cX1_open 21 = .ok (.iload_n 1, 1) := by decide +kernel
theorem dX1_open_22 : decode cX1_open 22 = .ok (.invokevirtual 26, 3) := by decide +kernel
theorem dX1_open_25 : decode cX1_open 25 = .ok (.aload_n 0, 1) := by decide +kernel
theorem dX1_open_26 : decode cX1_open 26 = .ok (.dup, 1) := by decide +kernel
theorem dX1_open_27 : decode cX1_open 27 = .ok (.getfield 18, 3) := by decide +kernel
theorem dX1_open_30 : decode cX1_open 30 = .ok (.iconst 1, 1) := by decide +kernel
theorem dX1_open_31 : decode cX1_open 31 = .ok (.iadd, 1) := by decide +kernel
theorem dX1_open_32 : decode cX1_open 32 = .ok (.putfield 18, 3) := by decide +kernel
theorem dX1_open_35 : decode cX1_open 35 = .ok (.aload_n 0, 1) := by decide +kernel
theorem dX1_open_36 : decode cX1_open 36 = .ok (.getfield 18, 3) := by decide +kernel
theorem dX1_open_39 : decode cX1_open 39 = .ok (.iconst 1, 1) := by decide +kernel
theorem dX1_open_40 : decode cX1_open 40 = .ok (.isub, 1) := by decide +kernel
theorem dX1_open_41 : decode cX1_open 41 = .ok (.ireturn, 1) := by decide +kernel
theorem dX1_setsAtSea_0 : decode cX1_setsAtSea 0 = .ok (.iconst 0, 1) := by decide +kernel
theorem dX1_setsAtSea_1 : decode cX1_setsAtSea 1 = .ok (.istore_n 1, 1) := by decide +kernel
theorem dX1_setsAtSea_2 : decode cX1_setsAtSea 2 = .ok (.iconst 0, 1) := by decide +kernel
theorem dX1_setsAtSea_3 : decode cX1_setsAtSea 3 = .ok (.istore_n 2, 1) := by decide +kernel
theorem dX1_setsAtSea_4 : decode cX1_setsAtSea 4 = .ok (.iload_n 2, 1) := by decide +kernel
theorem dX1_setsAtSea_5 : decode cX1_setsAtSea 5 = .ok (.aload_n 0, 1) := by decide +kernel
theorem dX1_setsAtSea_6 : decode cX1_setsAtSea 6 = .ok (.getfield 18, 3) := by decide +kernel
theorem dX1_setsAtSea_9 : decode cX1_setsAtSea 9 = .ok (.if_icmp .ge 29, 3) := by decide +kernel
theorem dX1_setsAtSea_12 : decode cX1_setsAtSea 12 = .ok (.iload_n 1, 1) := by decide +kernel
theorem dX1_setsAtSea_13 : decode cX1_setsAtSea 13 = .ok (.aload_n 0, 1) := by decide +kernel
theorem dX1_setsAtSea_14 : decode cX1_setsAtSea 14 = .ok (.getfield 11, 3) := by decide +kernel
theorem dX1_setsAtSea_17 : decode cX1_setsAtSea 17 = .ok (.iload_n 2, 1) := by decide +kernel
theorem dX1_setsAtSea_18 : decode cX1_setsAtSea 18 = .ok (.aaload, 1) := by decide +kernel
theorem dX1_setsAtSea_19 : decode cX1_setsAtSea 19 = .ok (.getfield 30, 3) := by decide +kernel
theorem dX1_setsAtSea_22 : decode cX1_setsAtSea 22 = .ok (.ifCond .eq 7, 3) := by decide +kernel
theorem dX1_setsAtSea_25 : decode cX1_setsAtSea 25 = .ok (.iconst 1, 1) := by decide +kernel
theorem dX1_setsAtSea_26 : decode cX1_setsAtSea 26 = .ok (.goto 4, 3) := by decide +kernel
theorem dX1_setsAtSea_29 : decode cX1_setsAtSea 29 = .ok (.iconst 0, 1) := by decide +kernel
theorem dX1_setsAtSea_30 : decode cX1_setsAtSea 30 = .ok (.iadd, 1) := by decide +kernel
theorem dX1_setsAtSea_31 : decode cX1_setsAtSea 31 = .ok (.istore_n 1, 1) := by decide +kernel
theorem dX1_setsAtSea_32 : decode cX1_setsAtSea 32 = .ok (.iinc 2 1, 3) := by decide +kernel
theorem dX1_setsAtSea_35 : decode cX1_setsAtSea 35 = .ok (.goto (-31), 3) := by decide +kernel
theorem dX1_setsAtSea_38 : decode cX1_setsAtSea 38 = .ok (.iload_n 1, 1) := by decide +kernel
theorem dX1_setsAtSea_39 : decode cX1_setsAtSea 39 = .ok (.ireturn, 1) := by decide +kernel
set_option maxRecDepth 20000 in
theorem ggX1_boatsOfKind_X0_boatsOfKind : GoodIn wsX1_boatsOfKind wsX0_boatsOfKind := goodIn_r _ [7, 8, 9, 12, 13, 14, 15, 16, 17, 18] (by decide +kernel) (by decide +kernel)
set_option maxRecDepth 20000 in
theorem gX1_boatsOfKind_X0_boatsOfKind : GoodIn wsX1_boatsOfKind (wsV RX1 34 RX0 yX0_boatsOfKind wsX0_boatsOfKind) := goodIn_app (goodIn_of _ (by decide +kernel)) ggX1_boatsOfKind_X0_boatsOfKind
theorem dX1_boatsOfKind_0 : decode cX1_boatsOfKind 0 = .ok (.iconst 0, 1) := by decide +kernel
theorem dX1_boatsOfKind_1 : decode cX1_boatsOfKind 1 = .ok (.istore_n 2, 1) := by decide +kernel
theorem dX1_boatsOfKind_2 : decode cX1_boatsOfKind 2 = .ok (.iconst 0, 1) := by decide +kernel
theorem dX1_boatsOfKind_3 : decode cX1_boatsOfKind 3 = .ok (.istore_n 3, 1) := by decide +kernel
theorem dX1_boatsOfKind_4 : decode cX1_boatsOfKind 4 = .ok (.iload_n 3, 1) := by decide +kernel
theorem dX1_boatsOfKind_5 : decode cX1_boatsOfKind 5 = .ok (.aload_n 0, 1) := by decide +kernel
theorem dX1_boatsOfKind_6 : decode cX1_boatsOfKind 6 = .ok (.getfield 18, 3) := by decide +kernel
theorem dX1_boatsOfKind_9 : decode cX1_boatsOfKind 9 = .ok (.if_icmp .ge 22, 3) := by decide +kernel
theorem dX1_boatsOfKind_12 : decode cX1_boatsOfKind 12 = .ok (.iload_n 2, 1) := by decide +kernel
theorem dX1_boatsOfKind_13 : decode cX1_boatsOfKind 13 = .ok (.aload_n 0, 1) := by decide +kernel
theorem dX1_boatsOfKind_14 : decode cX1_boatsOfKind 14 = .ok (.getfield 11, 3) := by decide +kernel
theorem dX1_boatsOfKind_17 : decode cX1_boatsOfKind 17 = .ok (.iload_n 3, 1) := by decide +kernel
theorem dX1_boatsOfKind_18 : decode cX1_boatsOfKind 18 = .ok (.aaload, 1) := by decide +kernel
theorem dX1_boatsOfKind_19 : decode cX1_boatsOfKind 19 = .ok (.iload_n 1, 1) := by decide +kernel
theorem dX1_boatsOfKind_20 : decode cX1_boatsOfKind 20 = .ok (.invokevirtual 34, 3) := by decide +kernel
theorem dX1_boatsOfKind_23 : decode cX1_boatsOfKind 23 = .ok (.iadd, 1) := by decide +kernel
theorem dX1_boatsOfKind_24 : decode cX1_boatsOfKind 24 = .ok (.istore_n 2, 1) := by decide +kernel
theorem dX1_boatsOfKind_25 : decode cX1_boatsOfKind 25 = .ok (.iinc 3 1, 3) := by decide +kernel
theorem dX1_boatsOfKind_28 : decode cX1_boatsOfKind 28 = .ok (.goto (-24), 3) := by decide +kernel
theorem dX1_boatsOfKind_31 : decode cX1_boatsOfKind 31 = .ok (.iload_n 2, 1) := by decide +kernel
theorem dX1_boatsOfKind_32 : decode cX1_boatsOfKind 32 = .ok (.ireturn, 1) := by decide +kernel
set_option maxRecDepth 20000 in
theorem ggX1_units_X0_units : GoodIn wsX1_units wsX0_units := goodIn_r _ [7, 8, 9, 10, 11, 6, 12, 13, 14, 17, 18, 19, 20, 21, 22, 23] (by decide +kernel) (by decide +kernel)
set_option maxRecDepth 20000 in
theorem gX1_units_X0_units : GoodIn wsX1_units (wsV RX1 38 RX0 yX0_units wsX0_units) := goodIn_app (goodIn_of _ (by decide +kernel)) ggX1_units_X0_units
theorem dX1_units_0 : decode cX1_units 0 = .ok (.iconst 0, 1) := by decide +kernel
theorem dX1_units_1 : decode cX1_units 1 = .ok (.istore_n 1, 1) := by decide +kernel
theorem dX1_units_2 : decode cX1_units 2 = .ok (.iconst 0, 1) := by decide +kernel
theorem dX1_units_3 : decode cX1_units 3 = .ok (.istore_n 2, 1) := by decide +kernel
theorem dX1_units_4 : decode cX1_units 4 = .ok (.iload_n 2, 1) := by decide +kernel
theorem dX1_units_5 : decode cX1_units 5 = .ok (.aload_n 0, 1) := by decide +kernel
theorem dX1_units_6 : decode cX1_units 6 = .ok (.getfield 18, 3) := by decide +kernel
theorem dX1_units_9 : decode cX1_units 9 = .ok (.if_icmp .ge 21, 3) := by decide +kernel
theorem dX1_units_12 : decode cX1_units 12 = .ok (.iload_n 1, 1) := by decide +kernel
theorem dX1_units_13 : decode cX1_units 13 = .ok (.aload_n 0, 1) := by decide +kernel
theorem dX1_units_14 : decode cX1_units 14 = .ok (.getfield 11, 3) := by decide +kernel
theorem dX1_units_17 : decode cX1_units 17 = .ok (.iload_n 2, 1) := by decide +kernel
theorem dX1_units_18 : decode cX1_units 18 = .ok (.aaload, 1) := by decide +kernel
theorem dX1_units_19 : decode cX1_units 19 = .ok (.invokevirtual 38, 3) := by decide +kernel
theorem dX1_units_22 : decode cX1_units 22 = .ok (.iadd, 1) := by decide +kernel
theorem dX1_units_23 : decode cX1_units 23 = .ok (.istore_n 1, 1) := by decide +kernel
theorem dX1_units_24 : decode cX1_units 24 = .ok (.iinc 2 1, 3) := by decide +kernel
theorem dX1_units_27 : decode cX1_units 27 = .ok (.goto (-23), 3) := by decide +kernel
theorem dX1_units_30 : decode cX1_units 30 = .ok (.iload_n 1, 1) := by decide +kernel
theorem dX1_units_31 : decode cX1_units 31 = .ok (.ireturn, 1) := by decide +kernel
set_option maxRecDepth 20000 in
theorem ggX1_numbers_X0_numbers : GoodIn wsX1_numbers wsX0_numbers := goodIn_r _ [7, 8, 11, 12, 13, 14, 15, 16, 17] (by decide +kernel) (by decide +kernel)
set_option maxRecDepth 20000 in
theorem gX1_numbers_X0_numbers : GoodIn wsX1_numbers (wsV RX1 42 RX0 yX0_numbers wsX0_numbers) := goodIn_app (goodIn_of _ (by decide +kernel)) ggX1_numbers_X0_numbers
theorem dX1_numbers_0 : decode cX1_numbers 0 = .ok (.iconst 0, 1) := by decide +kernel
theorem dX1_numbers_1 : decode cX1_numbers 1 = .ok (.istore_n 1, 1) := by decide +kernel
theorem dX1_numbers_2 : decode cX1_numbers 2 = .ok (.iconst 0, 1) := by decide +kernel
theorem dX1_numbers_3 : decode cX1_numbers 3 = .ok (.istore_n 2, 1) := by decide +kernel
theorem dX1_numbers_4 : decode cX1_numbers 4 = .ok (.iload_n 2, 1) := by decide +kernel
theorem dX1_numbers_5 : decode cX1_numbers 5 = .ok (.aload_n 0, 1) := by decide +kernel
theorem dX1_numbers_6 : decode cX1_numbers 6 = .ok (.getfield 18, 3) := by decide +kernel
theorem dX1_numbers_9 : decode cX1_numbers 9 = .ok (.if_icmp .ge 21, 3) := by decide +kernel
theorem dX1_numbers_12 : decode cX1_numbers 12 = .ok (.iload_n 1, 1) := by decide +kernel
theorem dX1_numbers_13 : decode cX1_numbers 13 = .ok (.aload_n 0, 1) := by decide +kernel
theorem dX1_numbers_14 : decode cX1_numbers 14 = .ok (.getfield 11, 3) := by decide +kernel
theorem dX1_numbers_17 : decode cX1_numbers 17 = .ok (.iload_n 2, 1) := by decide +kernel
theorem dX1_numbers_18 : decode cX1_numbers 18 = .ok (.aaload, 1) := by decide +kernel
theorem dX1_numbers_19 : decode cX1_numbers 19 = .ok (.invokevirtual 42, 3) := by decide +kernel
theorem dX1_numbers_22 : decode cX1_numbers 22 = .ok (.iadd, 1) := by decide +kernel
theorem dX1_numbers_23 : decode cX1_numbers 23 = .ok (.istore_n 1, 1) := by decide +kernel
theorem dX1_numbers_24 : decode cX1_numbers 24 = .ok (.iinc 2 1, 3) := by decide +kernel
theorem dX1_numbers_27 : decode cX1_numbers 27 = .ok (.goto (-23), 3) := by decide +kernel
theorem dX1_numbers_30 : decode cX1_numbers 30 = .ok (.iload_n 1, 1) := by decide +kernel
theorem dX1_numbers_31 : decode cX1_numbers 31 = .ok (.ireturn, 1) := by decide +kernel
theorem dX1_tollsPaid_0 : decode cX1_tollsPaid 0 = .ok (.iconst 0, 1) := by decide +kernel
theorem dX1_tollsPaid_1 : decode cX1_tollsPaid 1 = .ok (.istore_n 1, 1) := by decide +kernel
theorem dX1_tollsPaid_2 : decode cX1_tollsPaid 2 = .ok (.iconst 0, 1) := by decide +kernel
theorem dX1_tollsPaid_3 : decode cX1_tollsPaid 3 = .ok (.istore_n 2, 1) := by decide +kernel
theorem dX1_tollsPaid_4 : decode cX1_tollsPaid 4 = .ok (.iload_n 2, 1) := by decide +kernel
theorem dX1_tollsPaid_5 : decode cX1_tollsPaid 5 = .ok (.aload_n 0, 1) := by decide +kernel
theorem dX1_tollsPaid_6 : decode cX1_tollsPaid 6 = .ok (.getfield 18, 3) := by decide +kernel
theorem dX1_tollsPaid_9 : decode cX1_tollsPaid 9 = .ok (.if_icmp .ge 21, 3) := by decide +kernel
theorem dX1_tollsPaid_12 : decode cX1_tollsPaid 12 = .ok (.iload_n 1, 1) := by decide +kernel
theorem dX1_tollsPaid_13 : decode cX1_tollsPaid 13 = .ok (.aload_n 0, 1) := by decide +kernel
theorem dX1_tollsPaid_14 : decode cX1_tollsPaid 14 = .ok (.getfield 11, 3) := by decide +kernel
theorem dX1_tollsPaid_17 : decode cX1_tollsPaid 17 = .ok (.iload_n 2, 1) := by decide +kernel
theorem dX1_tollsPaid_18 : decode cX1_tollsPaid 18 = .ok (.aaload, 1) := by decide +kernel
theorem dX1_tollsPaid_19 : decode cX1_tollsPaid 19 = .ok (.getfield 45, 3) := by decide +kernel
theorem dX1_tollsPaid_22 : decode cX1_tollsPaid 22 = .ok (.iadd, 1) := by decide +kernel
theorem dX1_tollsPaid_23 : decode cX1_tollsPaid 23 = .ok (.istore_n 1, 1) := by decide +kernel
theorem dX1_tollsPaid_24 : decode cX1_tollsPaid 24 = .ok (.iinc 2 1, 3) := by decide +kernel
theorem dX1_tollsPaid_27 : decode cX1_tollsPaid 27 = .ok (.goto (-23), 3) := by decide +kernel
theorem dX1_tollsPaid_30 : decode cX1_tollsPaid 30 = .ok (.iload_n 1, 1) := by decide +kernel
theorem dX1_tollsPaid_31 : decode cX1_tollsPaid 31 = .ok (.ireturn, 1) := by decide +kernel
set_option maxRecDepth 20000 in
theorem ggX1_differentNumbers_X1_heldByAny : GoodIn wsX1_differentNumbers wsX1_heldByAny := goodIn_r _ [5, 6, 7, 8, 16, 17, 18, 19, 20, 21, 22, 23, 24] (by decide +kernel) (by decide +kernel)
set_option maxRecDepth 20000 in
theorem gX1_differentNumbers_X1_heldByAny : GoodIn wsX1_differentNumbers (wsV RX1 48 RX1 yX1_heldByAny wsX1_heldByAny) := goodIn_app (goodIn_of _ (by decide +kernel)) ggX1_differentNumbers_X1_heldByAny
set_option maxRecDepth 20000 in
theorem ggX1_differentNumbers_J13_bitCount_95d88 : GoodIn wsX1_differentNumbers wsJ13_bitCount_95d88 := goodIn_r _ [12, 13, 14, 15] (by decide +kernel) (by decide +kernel)
set_option maxRecDepth 20000 in
theorem gX1_differentNumbers_J13_bitCount_95d88 : GoodIn wsX1_differentNumbers (va_wsS RX1 52 yJ13_bitCount_95d88 wsJ13_bitCount_95d88) := goodIn_app (goodIn_of _ (by decide +kernel)) ggX1_differentNumbers_J13_bitCount_95d88
theorem dX1_differentNumbers_0 : decode cX1_differentNumbers 0 = .ok (.iconst 0, 1) := by decide +kernel
theorem dX1_differentNumbers_1 : decode cX1_differentNumbers 1 = .ok (.istore_n 1, 1) := by decide +kernel
theorem dX1_differentNumbers_2 : decode cX1_differentNumbers 2 = .ok (.iconst 0, 1) := by decide +kernel
theorem dX1_differentNumbers_3 : decode cX1_differentNumbers 3 = .ok (.istore_n 2, 1) := by decide +kernel
theorem dX1_differentNumbers_4 : decode cX1_differentNumbers 4 = .ok (.iload_n 2, 1) := by decide +kernel
theorem dX1_differentNumbers_5 : decode cX1_differentNumbers 5 = .ok (.bipush 32, 2) := by decide +kernel
theorem dX1_differentNumbers_7 : decode cX1_differentNumbers 7 = .ok (.if_icmp .ge 20, 3) := by decide +kernel
theorem dX1_differentNumbers_10 : decode cX1_differentNumbers 10 = .ok (.iload_n 1, 1) := by decide +kernel
theorem dX1_differentNumbers_11 : decode cX1_differentNumbers 11 = .ok (.aload_n 0, 1) := by decide +kernel
theorem dX1_differentNumbers_12 : decode cX1_differentNumbers 12 = .ok (.iload_n 2, 1) := by decide +kernel
theorem dX1_differentNumbers_13 : decode cX1_differentNumbers 13 = .ok (.invokevirtual 48, 3) := by decide +kernel
theorem dX1_differentNumbers_16 : decode cX1_differentNumbers 16 = .ok (.invokestatic 52, 3) := by decide +kernel
theorem dX1_differentNumbers_19 : decode cX1_differentNumbers 19 = .ok (.iadd, 1) := by decide +kernel
theorem dX1_differentNumbers_20 : decode cX1_differentNumbers 20 = .ok (.istore_n 1, 1) := by decide +kernel
theorem dX1_differentNumbers_21 : decode cX1_differentNumbers 21 = .ok (.iinc 2 1, 3) := by decide +kernel
theorem dX1_differentNumbers_24 : decode cX1_differentNumbers 24 = .ok (.goto (-20), 3) := by decide +kernel
theorem dX1_differentNumbers_27 : decode cX1_differentNumbers 27 = .ok (.iload_n 1, 1) := by decide +kernel
theorem dX1_differentNumbers_28 : decode cX1_differentNumbers 28 = .ok (.ireturn, 1) := by decide +kernel
theorem dX1_heldByAny_0 : decode cX1_heldByAny 0 = .ok (.lconst 0, 1) := by decide +kernel
theorem dX1_heldByAny_1 : decode cX1_heldByAny 1 = .ok (.lstore_n 2, 1) := by decide +kernel
theorem dX1_heldByAny_2 : decode cX1_heldByAny 2 = .ok (.iconst 0, 1) := by decide +kernel
theorem dX1_heldByAny_3 : decode cX1_heldByAny 3 = .ok (.istore 4, 2) := by decide +kernel
theorem dX1_heldByAny_5 : decode cX1_heldByAny 5 = .ok (.iload 4, 2) := by decide +kernel
theorem dX1_heldByAny_7 : decode cX1_heldByAny 7 = .ok (.aload_n 0, 1) := by decide +kernel
theorem dX1_heldByAny_8 : decode cX1_heldByAny 8 = .ok (.getfield 18, 3) := by decide +kernel
theorem dX1_heldByAny_11 : decode cX1_heldByAny 11 = .ok (.if_icmp .ge 24, 3) := by decide +kernel
theorem dX1_heldByAny_14 : decode cX1_heldByAny 14 = .ok (.lload_n 2, 1) := by decide +kernel
theorem dX1_heldByAny_15 : decode cX1_heldByAny 15 = .ok (.aload_n 0, 1) := by decide +kernel
theorem dX1_heldByAny_16 : decode cX1_heldByAny 16 = .ok (.getfield 11, 3) := by decide +kernel
theorem dX1_heldByAny_19 : decode cX1_heldByAny 19 = .ok (.iload 4, 2) := by decide +kernel
theorem dX1_heldByAny_21 : decode cX1_heldByAny 21 = .ok (.aaload, 1) := by decide +kernel
theorem dX1_heldByAny_22 : decode cX1_heldByAny 22 = .ok (.getfield 58, 3) := by decide +kernel
theorem dX1_heldByAny_25 : decode cX1_heldByAny 25 = .ok (.iload_n 1, 1) := by decide +kernel
theorem dX1_heldByAny_26 : decode cX1_heldByAny 26 = .ok (.laload, 1) := by decide +kernel
theorem dX1_heldByAny_27 : decode cX1_heldByAny 27 = .ok (.lor, 1) := by decide +kernel
theorem dX1_heldByAny_28 : decode cX1_heldByAny 28 = .ok (.lstore_n 2, 1) := by decide +kernel
theorem dX1_heldByAny_29 : decode cX1_heldByAny 29 = .ok (.iinc 4 1, 3) := by decide +kernel
theorem dX1_heldByAny_32 : decode cX1_heldByAny 32 = .ok (.goto (-27), 3) := by decide +kernel
theorem dX1_heldByAny_35 : decode cX1_heldByAny 35 = .ok (.lload_n 2, 1) := by decide +kernel
theorem dX1_heldByAny_36 : decode cX1_heldByAny 36 = .ok (.lreturn, 1) := by decide +kernel
set_option maxRecDepth 20000 in
theorem ggX1_holders_X0_holds : GoodIn wsX1_holders wsX0_holds := goodIn_r _ [7, 8, 9, 10, 11, 14, 15, 16, 17, 18, 19, 20] (by decide +kernel) (by decide +kernel)
set_option maxRecDepth 20000 in
theorem gX1_holders_X0_holds : GoodIn wsX1_holders (wsV RX1 62 RX0 yX0_holds wsX0_holds) := goodIn_app (goodIn_of _ (by decide +kernel)) ggX1_holders_X0_holds
theorem dX1_holders_0 : decode cX1_holders 0 = .ok (.iconst 0, 1) := by decide +kernel
theorem dX1_holders_1 : decode cX1_holders 1 = .ok (.istore_n 2, 1) := by decide +kernel
theorem dX1_holders_2 : decode cX1_holders 2 = .ok (.iconst 0, 1) := by decide +kernel
theorem dX1_holders_3 : decode cX1_holders 3 = .ok (.istore_n 3, 1) := by decide +kernel
theorem dX1_holders_4 : decode cX1_holders 4 = .ok (.iload_n 3, 1) := by decide +kernel
theorem dX1_holders_5 : decode cX1_holders 5 = .ok (.aload_n 0, 1) := by decide +kernel
theorem dX1_holders_6 : decode cX1_holders 6 = .ok (.getfield 18, 3) := by decide +kernel
theorem dX1_holders_9 : decode cX1_holders 9 = .ok (.if_icmp .ge 30, 3) := by decide +kernel
theorem dX1_holders_12 : decode cX1_holders 12 = .ok (.iload_n 2, 1) := by decide +kernel
theorem dX1_holders_13 : decode cX1_holders 13 = .ok (.aload_n 0, 1) := by decide +kernel
theorem dX1_holders_14 : decode cX1_holders 14 = .ok (.getfield 11, 3) := by decide +kernel
theorem dX1_holders_17 : decode cX1_holders 17 = .ok (.iload_n 3, 1) := by decide +kernel
theorem dX1_holders_18 : decode cX1_holders 18 = .ok (.aaload, 1) := by decide +kernel
theorem dX1_holders_19 : decode cX1_holders 19 = .ok (.iload_n 1, 1) := by decide +kernel
theorem dX1_holders_20 : decode cX1_holders 20 = .ok (.invokevirtual 62, 3) := by decide +kernel
theorem dX1_holders_23 : decode cX1_holders 23 = .ok (.ifCond .eq 7, 3) := by decide +kernel
theorem dX1_holders_26 : decode cX1_holders 26 = .ok (.iconst 1, 1) := by decide +kernel
theorem dX1_holders_27 : decode cX1_holders 27 = .ok (.goto 4, 3) := by decide +kernel
theorem dX1_holders_30 : decode cX1_holders 30 = .ok (.iconst 0, 1) := by decide +kernel
theorem dX1_holders_31 : decode cX1_holders 31 = .ok (.iadd, 1) := by decide +kernel
theorem dX1_holders_32 : decode cX1_holders 32 = .ok (.istore_n 2, 1) := by decide +kernel
theorem dX1_holders_33 : decode cX1_holders 33 = .ok (.iinc 3 1, 3) := by decide +kernel
theorem dX1_holders_36 : decode cX1_holders 36 = .ok (.goto (-32), 3) := by decide +kernel
theorem dX1_holders_39 : decode cX1_holders 39 = .ok (.iload_n 2, 1) := by decide +kernel
theorem dX1_holders_40 : decode cX1_holders 40 = .ok (.ireturn, 1) := by decide +kernel
set_option maxRecDepth 20000 in
theorem ggX1_mostHeld_X1_heldByAny : GoodIn wsX1_mostHeld wsX1_heldByAny := goodIn_r _ [5, 6, 7, 8, 22, 23, 24, 25, 26, 27, 28, 29, 30] (by decide +kernel) (by decide +kernel)
set_option maxRecDepth 20000 in
theorem gX1_mostHeld_X1_heldByAny : GoodIn wsX1_mostHeld (wsV RX1 48 RX1 yX1_heldByAny wsX1_heldByAny) := goodIn_app (goodIn_of _ (by decide +kernel)) ggX1_mostHeld_X1_heldByAny
set_option maxRecDepth 20000 in
theorem ggX1_mostHeld_X1_holders : GoodIn wsX1_mostHeld wsX1_holders := goodIn_r _ [12, 6, 7, 13, 14, 15, 16, 17, 18, 19, 20, 21, 22, 23, 24, 25, 26, 27, 28, 29, 30] (by decide +kernel) (by decide +kernel)
set_option maxRecDepth 20000 in
theorem gX1_mostHeld_X1_holders : GoodIn wsX1_mostHeld (wsV RX1 66 RX1 yX1_holders wsX1_holders) := goodIn_app (goodIn_of _ (by decide +kernel)) ggX1_mostHeld_X1_holders
theorem dX1_mostHeld_0 : decode cX1_mostHeld 0 = .ok (.bipush (-5), 2) := by decide +kernel
theorem dX1_mostHeld_2 : decode cX1_mostHeld 2 = .ok (.istore_n 1, 1) := by decide +kernel
theorem dX1_mostHeld_3 : decode cX1_mostHeld 3 = .ok (.iconst 0, 1) := by decide +kernel
theorem dX1_mostHeld_4 : decode cX1_mostHeld 4 = .ok (.istore_n 2, 1) := by decide +kernel
theorem dX1_mostHeld_5 : decode cX1_mostHeld 5 = .ok (.iconst 0, 1) := by decide +kernel
theorem dX1_mostHeld_6 : decode cX1_mostHeld 6 = .ok (.istore_n 3, 1) := by decide +kernel
theorem dX1_mostHeld_7 : decode cX1_mostHeld 7 = .ok (.iload_n 3, 1) := by decide +kernel
theorem dX1_mostHeld_8 : decode cX1_mostHeld 8 = .ok (.bipush 32, 2) := by decide +kernel
theorem dX1_mostHeld_10 : decode cX1_mostHeld 10 = .ok (.if_icmp .ge 72, 3) := by decide +kernel
theorem dX1_mostHeld_13 : decode cX1_mostHeld 13 = .ok (.aload_n 0, 1) := by decide +kernel
theorem dX1_mostHeld_14 : decode cX1_mostHeld 14 = .ok (.iload_n 3, 1) := by decide +kernel
theorem dX1_mostHeld_15 : decode cX1_mostHeld 15 = .ok (.invokevirtual 48, 3) := by decide +kernel
theorem dX1_mostHeld_18 : decode cX1_mostHeld 18 = .ok (.lconst 0, 1) := by decide +kernel
theorem dX1_mostHeld_19 : decode cX1_mostHeld 19 = .ok (.lcmp, 1) := by decide +kernel
theorem dX1_mostHeld_20 : decode cX1_mostHeld 20 = .ok (.ifCond .ne 7, 3) := by decide +kernel
theorem dX1_mostHeld_23 : decode cX1_mostHeld 23 = .ok (.iconst 0, 1) := by decide +kernel
theorem dX1_mostHeld_24 : decode cX1_mostHeld 24 = .ok (.goto 5, 3) := by decide +kernel
theorem dX1_mostHeld_27 : decode cX1_mostHeld 27 = .ok (.bipush 64, 2) := by decide +kernel
theorem dX1_mostHeld_29 : decode cX1_mostHeld 29 = .ok (.istore 4, 2) := by decide +kernel
theorem dX1_mostHeld_31 : decode cX1_mostHeld 31 = .ok (.iconst 0, 1) := by decide +kernel
theorem dX1_mostHeld_32 : decode cX1_mostHeld 32 = .ok (.istore 5, 2) := by decide +kernel
theorem dX1_mostHeld_34 : decode cX1_mostHeld 34 = .ok (.iload 5, 2) := by decide +kernel
theorem dX1_mostHeld_36 : decode cX1_mostHeld 36 = .ok (.iload 4, 2) := by decide +kernel
theorem dX1_mostHeld_38 : decode cX1_mostHeld 38 = .ok (.if_icmp .ge 38, 3) := by decide +kernel
theorem dX1_mostHeld_41 : decode cX1_mostHeld 41 = .ok (.iload_n 3, 1) := by decide +kernel
theorem dX1_mostHeld_42 : decode cX1_mostHeld 42 = .ok (.bipush 64, 2) := by decide +kernel
theorem dX1_mostHeld_44 : decode cX1_mostHeld 44 = .ok (.imul, 1) := by decide +kernel
theorem dX1_mostHeld_45 : decode cX1_mostHeld 45 = .ok (.iload 5, 2) := by decide +kernel
theorem dX1_mostHeld_47 : decode cX1_mostHeld 47 = .ok (.iadd, 1) := by decide +kernel
theorem dX1_mostHeld_48 : decode cX1_mostHeld 48 = .ok (.istore 6, 2) := by decide +kernel
theorem dX1_mostHeld_50 : decode cX1_mostHeld 50 = .ok (.aload_n 0, 1) := by decide +kernel
theorem dX1_mostHeld_51 : decode cX1_mostHeld 51 = .ok (.iload 6, 2) := by decide +kernel
theorem dX1_mostHeld_53 : decode cX1_mostHeld 53 = .ok (.invokevirtual 66, 3) := by decide +kernel
theorem dX1_mostHeld_56 : decode cX1_mostHeld 56 = .ok (.istore 7, 2) := by decide +kernel
theorem dX1_mostHeld_58 : decode cX1_mostHeld 58 = .ok (.iload 7, 2) := by decide +kernel
theorem dX1_mostHeld_60 : decode cX1_mostHeld 60 = .ok (.iload_n 2, 1) := by decide +kernel
theorem dX1_mostHeld_61 : decode cX1_mostHeld 61 = .ok (.if_icmp .le 9, 3) := by decide +kernel
theorem dX1_mostHeld_64 : decode cX1_mostHeld 64 = .ok (.iload 6, 2) := by decide +kernel
theorem dX1_mostHeld_66 : decode cX1_mostHeld 66 = .ok (.istore_n 1, 1) := by decide +kernel
theorem dX1_mostHeld_67 : decode cX1_mostHeld 67 = .ok (.iload 7, 2) := by decide +kernel
theorem dX1_mostHeld_69 : decode cX1_mostHeld 69 = .ok (.istore_n 2, 1) := by decide +kernel
theorem dX1_mostHeld_70 : decode cX1_mostHeld 70 = .ok (.iinc 5 1, 3) := by decide +kernel
theorem dX1_mostHeld_73 : decode cX1_mostHeld 73 = .ok (.goto (-39), 3) := by decide +kernel
theorem dX1_mostHeld_76 : decode cX1_mostHeld 76 = .ok (.iinc 3 1, 3) := by decide +kernel
theorem dX1_mostHeld_79 : decode cX1_mostHeld 79 = .ok (.goto (-72), 3) := by decide +kernel
theorem dX1_mostHeld_82 : decode cX1_mostHeld 82 = .ok (.iload_n 1, 1) := by decide +kernel
theorem dX1_mostHeld_83 : decode cX1_mostHeld 83 = .ok (.ireturn, 1) := by decide +kernel
set_option maxRecDepth 20000 in
theorem ggX1_numberOfAll_X1_heldByAny : GoodIn wsX1_numberOfAll wsX1_heldByAny := goodIn_r _ [5, 6, 7, 8, 22, 23, 24, 25, 26, 27, 28, 29, 30] (by decide +kernel) (by decide +kernel)
set_option maxRecDepth 20000 in
theorem gX1_numberOfAll_X1_heldByAny : GoodIn wsX1_numberOfAll (wsV RX1 48 RX1 yX1_heldByAny wsX1_heldByAny) := goodIn_app (goodIn_of _ (by decide +kernel)) ggX1_numberOfAll_X1_heldByAny
set_option maxRecDepth 20000 in
theorem ggX1_numberOfAll_X1_holders : GoodIn wsX1_numberOfAll wsX1_holders := goodIn_r _ [12, 6, 7, 13, 14, 15, 16, 17, 18, 19, 20, 21, 22, 23, 24, 25, 26, 27, 28, 29, 30] (by decide +kernel) (by decide +kernel)
set_option maxRecDepth 20000 in
theorem gX1_numberOfAll_X1_holders : GoodIn wsX1_numberOfAll (wsV RX1 66 RX1 yX1_holders wsX1_holders) := goodIn_app (goodIn_of _ (by decide +kernel)) ggX1_numberOfAll_X1_holders
theorem dX1_numberOfAll_0 : decode cX1_numberOfAll 0 = .ok (.iload_n 1, 1) := by decide +kernel
theorem dX1_numberOfAll_1 : decode cX1_numberOfAll 1 = .ok (.istore_n 2, 1) := by decide +kernel
theorem dX1_numberOfAll_2 : decode cX1_numberOfAll 2 = .ok (.iconst 0, 1) := by decide +kernel
theorem dX1_numberOfAll_3 : decode cX1_numberOfAll 3 = .ok (.istore_n 3, 1) := by decide +kernel
theorem dX1_numberOfAll_4 : decode cX1_numberOfAll 4 = .ok (.iload_n 3, 1) := by decide +kernel
theorem dX1_numberOfAll_5 : decode cX1_numberOfAll 5 = .ok (.bipush 32, 2) := by decide +kernel
theorem dX1_numberOfAll_7 : decode cX1_numberOfAll 7 = .ok (.if_icmp .ge 68, 3) := by decide +kernel
theorem dX1_numberOfAll_10 : decode cX1_numberOfAll 10 = .ok (.aload_n 0, 1) := by decide +kernel
theorem dX1_numberOfAll_11 : decode cX1_numberOfAll 11 = .ok (.iload_n 3, 1) := by decide +kernel
theorem dX1_numberOfAll_12 : decode cX1_numberOfAll 12 = .ok (.invokevirtual 48, 3) := by decide +kernel
theorem dX1_numberOfAll_15 : decode cX1_numberOfAll 15 = .ok (.lconst 0, 1) := by decide +kernel
theorem dX1_numberOfAll_16 : decode cX1_numberOfAll 16 = .ok (.lcmp, 1) := by decide +kernel
theorem dX1_numberOfAll_17 : decode cX1_numberOfAll 17 = .ok (.ifCond .ne 7, 3) := by decide +kernel
theorem dX1_numberOfAll_20 : decode cX1_numberOfAll 20 = .ok (.iconst 0, 1) := by decide +kernel
theorem dX1_numberOfAll_21 : decode cX1_numberOfAll 21 = .ok (.goto 5, 3) := by decide +kernel
theorem dX1_numberOfAll_24 : decode cX1_numberOfAll 24 = .ok (.bipush 64, 2) := by decide +kernel
theorem dX1_numberOfAll_26 : decode cX1_numberOfAll 26 = .ok (.istore 4, 2) := by decide +kernel
theorem dX1_numberOfAll_28 : decode cX1_numberOfAll 28 = .ok (.iconst 0, 1) := by decide +kernel
theorem dX1_numberOfAll_29 : decode cX1_numberOfAll 29 = .ok (.istore 5, 2) := by decide +kernel
theorem dX1_numberOfAll_31 : decode cX1_numberOfAll 31 = .ok (.iload 5, 2) := by decide +kernel
theorem dX1_numberOfAll_33 : decode cX1_numberOfAll 33 = .ok (.iload 4, 2) := by decide +kernel
theorem dX1_numberOfAll_35 : decode cX1_numberOfAll 35 = .ok (.if_icmp .ge 34, 3) := by decide +kernel
theorem dX1_numberOfAll_38 : decode cX1_numberOfAll 38 = .ok (.iload_n 3, 1) := by decide +kernel
theorem dX1_numberOfAll_39 : decode cX1_numberOfAll 39 = .ok (.bipush 64, 2) := by decide +kernel
theorem dX1_numberOfAll_41 : decode cX1_numberOfAll 41 = .ok (.imul, 1) := by decide +kernel
theorem dX1_numberOfAll_42 : decode cX1_numberOfAll 42 = .ok (.iload 5, 2) := by decide +kernel
theorem dX1_numberOfAll_44 : decode cX1_numberOfAll 44 = .ok (.iadd, 1) := by decide +kernel
theorem dX1_numberOfAll_45 : decode cX1_numberOfAll 45 = .ok (.istore 6, 2) := by decide +kernel
theorem dX1_numberOfAll_47 : decode cX1_numberOfAll 47 = .ok (.iload_n 2, 1) := by decide +kernel
theorem dX1_numberOfAll_48 : decode cX1_numberOfAll 48 = .ok (.aload_n 0, 1) := by decide +kernel
theorem dX1_numberOfAll_49 : decode cX1_numberOfAll 49 = .ok (.iload 6, 2) := by decide +kernel
theorem dX1_numberOfAll_51 : decode cX1_numberOfAll 51 = .ok (.invokevirtual 66, 3) := by decide +kernel
theorem dX1_numberOfAll_54 : decode cX1_numberOfAll 54 = .ok (.isub, 1) := by decide +kernel
theorem dX1_numberOfAll_55 : decode cX1_numberOfAll 55 = .ok (.istore_n 2, 1) := by decide +kernel
theorem dX1_numberOfAll_56 : decode cX1_numberOfAll 56 = .ok (.iload_n 2, 1) := by decide +kernel
theorem dX1_numberOfAll_57 : decode cX1_numberOfAll 57 = .ok (.ifCond .ge 6, 3) := by decide +kernel
theorem dX1_numberOfAll_60 : decode cX1_numberOfAll 60 = .ok (.iload 6, 2) := by decide +kernel
theorem dX1_numberOfAll_62 : decode cX1_numberOfAll 62 = .ok (.ireturn, 1) := by decide +kernel
theorem dX1_numberOfAll_63 : decode cX1_numberOfAll 63 = .ok (.iinc 5 1, 3) := by decide +kernel
theorem dX1_numberOfAll_66 : decode cX1_numberOfAll 66 = .ok (.goto (-35), 3) := by decide +kernel
theorem dX1_numberOfAll_69 : decode cX1_numberOfAll 69 = .ok (.iinc 3 1, 3) := by decide +kernel
theorem dX1_numberOfAll_72 : decode cX1_numberOfAll 72 = .ok (.goto (-68), 3) := by decide +kernel
theorem dX1_numberOfAll_75 : decode cX1_numberOfAll 75 = .ok (.bipush (-5), 2) := by decide +kernel
theorem dX1_numberOfAll_77 : decode cX1_numberOfAll 77 = .ok (.ireturn, 1) := by decide +kernel
set_option maxRecDepth 20000 in
theorem ggX2_init_X1_init : GoodIn wsX2_init wsX1_init := goodIn_r _ [10, 11, 2, 3, 12, 13, 14, 15, 16, 17, 18, 19, 20, 21, 22, 23, 24, 25, 28, 29, 30, 31, 32, 33, 34, 35, 36] (by decide +kernel) (by decide +kernel)
set_option maxRecDepth 20000 in
theorem gX2_init_X1_init : GoodIn wsX2_init (wsX1_init) := ggX2_init_X1_init
theorem dX2_init_0 : decode cX2_init 0 = .ok (.aload_n 0, 1) := by decide +kernel
theorem dX2_init_1 : decode cX2_init 1 = .ok (.invokespecial 3, 3) := by decide +kernel
theorem dX2_init_4 : decode cX2_init 4 = .ok (.aload_n 0, 1) := by decide +kernel
theorem dX2_init_5 : decode cX2_init 5 = .ok (.iconst 4, 1) := by decide +kernel
theorem dX2_init_6 : decode cX2_init 6 = .ok (.anewarray 9, 3) := by decide +kernel
theorem dX2_init_9 : decode cX2_init 9 = .ok (.putfield 11, 3) := by decide +kernel
theorem dX2_init_12 : decode cX2_init 12 = .ok (.iconst 0, 1) := by decide +kernel
theorem dX2_init_13 : decode cX2_init 13 = .ok (.istore_n 1, 1) := by decide +kernel
theorem dX2_init_14 : decode cX2_init 14 = .ok (.iload_n 1, 1) := by decide +kernel
theorem dX2_init_15 : decode cX2_init 15 = .ok (.iconst 4, 1) := by decide +kernel
theorem dX2_init_16 : decode cX2_init 16 = .ok (.if_icmp .ge 22, 3) := by decide +kernel
theorem dX2_init_19 : decode cX2_init 19 = .ok (.aload_n 0, 1) := by decide +kernel
theorem dX2_init_20 : decode cX2_init 20 = .ok (.getfield 11, 3) := by decide +kernel
theorem dX2_init_23 : decode cX2_init 23 = .ok (.iload_n 1, 1) := by decide +kernel
theorem dX2_init_24 : decode cX2_init 24 = .ok (.new 9, 3) := by decide +kernel
theorem dX2_init_27 : decode cX2_init 27 = .ok (.dup, 1) := by decide +kernel
theorem dX2_init_28 : decode cX2_init 28 = .ok (.invokespecial 17, 3) := by decide +kernel
theorem dX2_init_31 : decode cX2_init 31 = .ok (.aastore, 1) := by decide +kernel
theorem dX2_init_32 : decode cX2_init 32 = .ok (.iinc 1 1, 3) := by decide +kernel
theorem dX2_init_35 : decode cX2_init 35 = .ok (.goto (-21), 3) := by decide +kernel
theorem dX2_init_38 : decode cX2_init 38 = .ok (.return_, 1) := by decide +kernel
set_option maxRecDepth 20000 in
theorem ggX2_push_X2_dropOldest : GoodIn wsX2_push wsX2_dropOldest := goodIn_r _ [7, 2, 1, 31, 32] (by decide +kernel) (by decide +kernel)
set_option maxRecDepth 20000 in
theorem gX2_push_X2_dropOldest : GoodIn wsX2_push (wsV RX2 22 RX2 yX2_dropOldest wsX2_dropOldest) := goodIn_app (goodIn_of _ (by decide +kernel)) ggX2_push_X2_dropOldest
set_option maxRecDepth 20000 in
theorem ggX2_push_X1_copyFrom : GoodIn wsX2_push wsX1_copyFrom := goodIn_r _ [12, 13, 14, 15, 16, 17, 18, 19, 20, 21, 22, 23, 24, 25, 26, 27, 28, 29, 30, 33, 34, 35, 36, 37, 38, 39, 40, 41] (by decide +kernel) (by decide +kernel)
set_option maxRecDepth 20000 in
theorem gX2_push_X1_copyFrom : GoodIn wsX2_push (wsV RX2 25 RX1 yX1_copyFrom wsX1_copyFrom) := goodIn_app (goodIn_of _ (by decide +kernel)) ggX2_push_X1_copyFrom
theorem dX2_push_0 : decode cX2_push 0 = .ok (.aload_n 0, 1) := by decide +kernel
theorem dX2_push_1 : decode cX2_push 1 = .ok (.getfield 18, 3) := by decide +kernel
theorem dX2_push_4 : decode cX2_push 4 = .ok (.iconst 4, 1) := by decide +kernel
theorem dX2_push_5 : decode cX2_push 5 = .ok (.if_icmp .lt 7, 3) := by decide +kernel
theorem dX2_push_8 : decode cX2_push 8 = .ok (.aload_n 0, 1) := by decide +kernel
theorem dX2_push_9 : decode cX2_push 9 = .ok (.invokevirtual 22, 3) := by decide +kernel
theorem dX2_push_12 : decode cX2_push 12 = .ok (.aload_n 0, 1) := by decide +kernel
theorem dX2_push_13 : decode cX2_push 13 = .ok (.getfield 11, 3) := by decide +kernel
theorem dX2_push_16 : decode cX2_push 16 = .ok (.aload_n 0, 1) := by decide +kernel
theorem dX2_push_17 : decode cX2_push 17 = .ok (.getfield 18, 3) := by decide +kernel
theorem dX2_push_20 : decode cX2_push 20 = .ok (.aaload, 1) := by decide +kernel
theorem dX2_push_21 : decode cX2_push 21 = .ok (.aload_n 1, 1) := by decide +kernel
theorem dX2_push_22 : decode cX2_push 22 = .ok (.invokevirtual 25, 3) := by decide +kernel
theorem dX2_push_25 : decode cX2_push 25 = .ok (.aload_n 0, 1) := by decide +kernel
theorem dX2_push_26 : decode cX2_push 26 = .ok (.dup, 1) := by decide +kernel
theorem dX2_push_27 : decode cX2_push 27 = .ok (.getfield 18, 3) := by decide +kernel
theorem dX2_push_30 : decode cX2_push 30 = .ok (.iconst 1, 1) := by decide +kernel
theorem dX2_push_31 : decode cX2_push 31 = .ok (.iadd, 1) := by decide +kernel
theorem dX2_push_32 : decode cX2_push 32 = .ok (.putfield 18, 3) := by decide +kernel
theorem dX2_push_35 : decode cX2_push 35 = .ok (.return_, 1) := by decide +kernel
theorem dX2_dropOldest_0 : decode cX2_dropOldest 0 = .ok (.aload_n 0, 1) := by decide +kernel
theorem dX2_dropOldest_1 : decode cX2_dropOldest 1 = .ok (.getfield 11, 3) := by decide +kernel
theorem dX2_dropOldest_4 : decode cX2_dropOldest 4 = .ok (.iconst 0, 1) := by decide +kernel
theorem dX2_dropOldest_5 : decode cX2_dropOldest 5 = .ok (.aaload, 1) := by decide +kernel
theorem dX2_dropOldest_6 : decode cX2_dropOldest 6 = .ok (.astore_n 1, 1) := by decide +kernel
theorem dX2_dropOldest_7 : decode cX2_dropOldest 7 = .ok (.iconst 1, 1) := by decide +kernel
theorem dX2_dropOldest_8 : decode cX2_dropOldest 8 = .ok (.istore_n 2, 1) := by decide +kernel
theorem dX2_dropOldest_9 : decode cX2_dropOldest 9 = .ok (.iload_n 2, 1) := by decide +kernel
theorem dX2_dropOldest_10 : decode cX2_dropOldest 10 = .ok (.iconst 4, 1) := by decide +kernel
theorem dX2_dropOldest_11 : decode cX2_dropOldest 11 = .ok (.if_icmp .ge 23, 3) := by decide +kernel
theorem dX2_dropOldest_14 : decode cX2_dropOldest 14 = .ok (.aload_n 0, 1) := by decide +kernel
theorem dX2_dropOldest_15 : decode cX2_dropOldest 15 = .ok (.getfield 11, 3) := by decide +kernel
theorem dX2_dropOldest_18 : decode cX2_dropOldest 18 = .ok (.iload_n 2, 1) := by decide +kernel
theorem dX2_dropOldest_19 : decode cX2_dropOldest 19 = .ok (.iconst 1, 1) := by decide +kernel
theorem dX2_dropOldest_20 : decode cX2_dropOldest 20 = .ok (.isub, 1) := by decide +kernel
theorem dX2_dropOldest_21 : decode cX2_dropOldest 21 = .ok (.aload_n 0, 1) := by decide +kernel
theorem dX2_dropOldest_22 : decode cX2_dropOldest 22 = .ok (.getfield 11, 3) := by decide +kernel
theorem dX2_dropOldest_25 : decode cX2_dropOldest 25 = .ok (.iload_n 2, 1) := by decide +kernel
theorem dX2_dropOldest_26 : decode cX2_dropOldest 26 = .ok (.aaload, 1) := by decide +kernel
theorem dX2_dropOldest_27 : decode cX2_dropOldest 27 = .ok (.aastore, 1) := by decide +kernel
theorem dX2_dropOldest_28 : decode cX2_dropOldest 28 = .ok (.iinc 2 1, 3) := by decide +kernel
theorem dX2_dropOldest_31 : decode cX2_dropOldest 31 = .ok (.goto (-22), 3) := by decide +kernel
theorem dX2_dropOldest_34 : decode cX2_dropOldest 34 = .ok (.aload_n 0, 1) := by decide +kernel
theorem dX2_dropOldest_35 : decode cX2_dropOldest 35 = .ok (.getfield 11, 3) := by decide +kernel
theorem dX2_dropOldest_38 : decode cX2_dropOldest 38 = .ok (.iconst 3, 1) := by decide +kernel
theorem dX2_dropOldest_39 : decode cX2_dropOldest 39 = .ok (.aload_n 1, 1) := by decide +kernel
theorem dX2_dropOldest_40 : decode cX2_dropOldest 40 = .ok (.aastore, 1) := by decide +kernel
theorem dX2_dropOldest_41 : decode cX2_dropOldest 41 = .ok (.aload_n 0, 1) := by decide +kernel
theorem dX2_dropOldest_42 : decode cX2_dropOldest 42 = .ok (.iconst 3, 1) := by decide +kernel
theorem dX2_dropOldest_43 : decode cX2_dropOldest 43 = .ok (.putfield 18, 3) := by decide +kernel
theorem dX2_dropOldest_46 : decode cX2_dropOldest 46 = .ok (.return_, 1) := by decide +kernel
set_option maxRecDepth 20000 in
theorem ggX2_popInto_X1_copyFrom : GoodIn wsX2_popInto wsX1_copyFrom := goodIn_r _ [7, 8, 9, 10, 11, 12, 13, 14, 15, 16, 17, 18, 19, 20, 21, 22, 23, 24, 25, 28, 29, 30, 31, 32, 33, 34, 35, 36] (by decide +kernel) (by decide +kernel)
set_option maxRecDepth 20000 in
theorem gX2_popInto_X1_copyFrom : GoodIn wsX2_popInto (wsV RX2 25 RX1 yX1_copyFrom wsX1_copyFrom) := goodIn_app (goodIn_of _ (by decide +kernel)) ggX2_popInto_X1_copyFrom
theorem dX2_popInto_0 : decode cX2_popInto 0 = .ok (.aload_n 0, 1) := by decide +kernel
theorem dX2_popInto_1 : decode cX2_popInto 1 = .ok (.getfield 18, 3) := by decide +kernel
theorem dX2_popInto_4 : decode cX2_popInto 4 = .ok (.ifCond .gt 4, 3) := by decide +kernel
theorem dX2_popInto_7 : decode cX2_popInto 7 = .ok (.return_, 1) := by decide +kernel
theorem dX2_popInto_8 : decode cX2_popInto 8 = .ok (.aload_n 0, 1) := by decide +kernel
theorem dX2_popInto_9 : decode cX2_popInto 9 = .ok (.dup, 1) := by decide +kernel
theorem dX2_popInto_10 : decode cX2_popInto 10 = .ok (.getfield 18, 3) := by decide +kernel
theorem dX2_popInto_13 : decode cX2_popInto 13 = .ok (.iconst 1, 1) := by decide +kernel
theorem dX2_popInto_14 : decode cX2_popInto 14 = .ok (.isub, 1) := by decide +kernel
theorem dX2_popInto_15 : decode cX2_popInto 15 = .ok (.putfield 18, 3) := by decide +kernel
theorem dX2_popInto_18 : decode cX2_popInto 18 = .ok (.aload_n 1, 1) := by decide +kernel
theorem dX2_popInto_19 : decode cX2_popInto 19 = .ok (.aload_n 0, 1) := by decide +kernel
theorem dX2_popInto_20 : decode cX2_popInto 20 = .ok (.getfield 11, 3) := by decide +kernel
theorem dX2_popInto_23 : decode cX2_popInto 23 = .ok (.aload_n 0, 1) := by decide +kernel
theorem dX2_popInto_24 : decode cX2_popInto 24 = .ok (.getfield 18, 3) := by decide +kernel
theorem dX2_popInto_27 : decode cX2_popInto 27 = .ok (.aaload, 1) := by decide +kernel
theorem dX2_popInto_28 : decode cX2_popInto 28 = .ok (.invokevirtual 25, 3) := by decide +kernel
theorem dX2_popInto_31 : decode cX2_popInto 31 = .ok (.return_, 1) := by decide +kernel
theorem dX3_init_0 : decode cX3_init 0 = .ok (.aload_n 0, 1) := by decide +kernel
theorem dX3_init_1 : decode cX3_init 1 = .ok (.invokespecial 3, 3) := by decide +kernel
theorem dX3_init_4 : decode cX3_init 4 = .ok (.aload_n 0, 1) := by decide +kernel
theorem dX3_init_5 : decode cX3_init 5 = .ok (.bipush 60, 2) := by decide +kernel
theorem dX3_init_7 : decode cX3_init 7 = .ok (.newarray .char, 2) := by decide +kernel
theorem dX3_init_9 : decode cX3_init 9 = .ok (.putfield 9, 3) := by decide +kernel
theorem dX3_init_12 : decode cX3_init 12 = .ok (.aload_n 0, 1) := by decide +kernel
theorem dX3_init_13 : decode cX3_init 13 = .ok (.bipush 30, 2) := by decide +kernel
theorem dX3_init_15 : decode cX3_init 15 = .ok (.newarray .int, 2) := by decide +kernel
theorem dX3_init_17 : decode cX3_init 17 = .ok (.putfield 15, 3) := by decide +kernel
theorem dX3_init_20 : decode cX3_init 20 = .ok (.aload_n 0, 1) := by decide +kernel
theorem dX3_init_21 : decode cX3_init 21 = .ok (.bipush 30, 2) := by decide +kernel
theorem dX3_init_23 : decode cX3_init 23 = .ok (.newarray .int, 2) := by decide +kernel
theorem dX3_init_25 : decode cX3_init 25 = .ok (.putfield 19, 3) := by decide +kernel
theorem dX3_init_28 : decode cX3_init 28 = .ok (.return_, 1) := by decide +kernel
set_option maxRecDepth 20000 in
theorem ggX3_read_X3_noteRange : GoodIn wsX3_read wsX3_noteRange := goodIn_r _ [8, 1, 9, 10, 11, 12, 13, 14, 15] (by decide +kernel) (by decide +kernel)
set_option maxRecDepth 20000 in
theorem gX3_read_X3_noteRange : GoodIn wsX3_read (wsV RX3 29 RX3 yX3_noteRange wsX3_noteRange) := goodIn_app (goodIn_of _ (by decide +kernel)) ggX3_read_X3_noteRange
theorem dX3_read_0 : decode cX3_read 0 = .ok (.aload_n 0, 1) := by decide +kernel
theorem dX3_read_1 : decode cX3_read 1 = .ok (.iconst 0, 1) := by decide +kernel
theorem dX3_read_2 : decode cX3_read 2 = .ok (.putfield 22, 3) := by decide +kernel
theorem dX3_read_5 : decode cX3_read 5 = .ok (.iconst 0, 1) := by decide +kernel
theorem dX3_read_6 : decode cX3_read 6 = .ok (.istore_n 1, 1) := by decide +kernel
theorem dX3_read_7 : decode cX3_read 7 = .ok (.iconst 0, 1) := by decide +kernel
theorem dX3_read_8 : decode cX3_read 8 = .ok (.istore_n 2, 1) := by decide +kernel
theorem dX3_read_9 : decode cX3_read 9 = .ok (.iconst 0, 1) := by decide +kernel
theorem dX3_read_10 : decode cX3_read 10 = .ok (.istore_n 3, 1) := by decide +kernel
theorem dX3_read_11 : decode cX3_read 11 = .ok (.iconst 0, 1) := by decide +kernel
theorem dX3_read_12 : decode cX3_read 12 = .ok (.istore 4, 2) := by decide +kernel
theorem dX3_read_14 : decode cX3_read 14 = .ok (.iconst 0, 1) := by decide +kernel
theorem dX3_read_15 : decode cX3_read 15 = .ok (.istore 5, 2) := by decide +kernel
theorem dX3_read_17 : decode cX3_read 17 = .ok (.iload 5, 2) := by decide +kernel
theorem dX3_read_19 : decode cX3_read 19 = .ok (.aload_n 0, 1) := by decide +kernel
theorem dX3_read_20 : decode cX3_read 20 = .ok (.getfield 26, 3) := by decide +kernel
theorem dX3_read_23 : decode cX3_read 23 = .ok (.if_icmp .ge 133, 3) := by decide +kernel
theorem dX3_read_26 : decode cX3_read 26 = .ok (.aload_n 0, 1) := by decide +kernel
theorem dX3_read_27 : decode cX3_read 27 = .ok (.getfield 9, 3) := by decide +kernel
theorem dX3_read_30 : decode cX3_read 30 = .ok (.iload 5, 2) := by decide +kernel
theorem dX3_read_32 : decode cX3_read 32 = .ok (.caload, 1) := by decide +kernel
theorem dX3_read_33 : decode cX3_read 33 = .ok (.istore 6, 2) := by decide +kernel
theorem dX3_read_35 : decode cX3_read 35 = .ok (.iload 6, 2) := by decide +kernel
theorem dX3_read_37 : decode cX3_read 37 = .ok (.bipush 48, 2) := by decide +kernel
theorem dX3_read_39 : decode cX3_read 39 = .ok (.if_icmp .lt 44, 3) := by decide +kernel
theorem dX3_read_42 : decode cX3_read 42 = .ok (.iload 6, 2) := by decide +kernel
theorem dX3_read_44 : decode cX3_read 44 = .ok (.bipush 57, 2) := by decide +kernel
theorem dX3_read_46 : decode cX3_read 46 = .ok (.if_icmp .gt 37, 3) := by decide +kernel
theorem dX3_read_49 : decode cX3_read 49 = .ok (.iload_n 1, 1) := by decide +kernel
theorem dX3_read_50 : decode cX3_read 50 = .ok (.iconst 4, 1) := by decide +kernel
theorem dX3_read_51 : decode cX3_read 51 = .ok (.if_icmp .eq 12, 3) := by decide +kernel
theorem dX3_read_54 : decode cX3_read 54 = .ok (.iload_n 1, 1) := by decide +kernel
theorem dX3_read_55 : decode cX3_read 55 = .ok (.iconst 1, 1) := by decide +kernel
theorem dX3_read_56 : decode cX3_read 56 = .ok (.if_icmp .ne 10, 3) := by decide +kernel
theorem dX3_read_59 : decode cX3_read 59 = .ok (.iload_n 3, 1) := by decide +kernel
theorem dX3_read_60 : decode cX3_read 60 = .ok (.ifCond .ne 6, 3) := by decide +kernel
theorem dX3_read_63 : decode cX3_read 63 = .ok (.iload 5, 2) := by decide +kernel
theorem dX3_read_65 : decode cX3_read 65 = .ok (.ireturn, 1) := by decide +kernel
theorem dX3_read_66 : decode cX3_read 66 = .ok (.bipush 10, 2) := by decide +kernel
theorem dX3_read_68 : decode cX3_read 68 = .ok (.iload_n 3, 1) := by decide +kernel
theorem dX3_read_69 : decode cX3_read 69 = .ok (.imul, 1) := by decide +kernel
theorem dX3_read_70 : decode cX3_read 70 = .ok (.iload 6, 2) := by decide +kernel
theorem dX3_read_72 : decode cX3_read 72 = .ok (.bipush 48, 2) := by decide +kernel
theorem dX3_read_74 : decode cX3_read 74 = .ok (.isub, 1) := by decide +kernel
theorem dX3_read_75 : decode cX3_read 75 = .ok (.iadd, 1) := by decide +kernel
theorem dX3_read_76 : decode cX3_read 76 = .ok (.istore_n 3, 1) := by decide +kernel
theorem dX3_read_77 : decode cX3_read 77 = .ok (.iinc 1 1, 3) := by decide +kernel
theorem dX3_read_80 : decode cX3_read 80 = .ok (.goto 70, 3) := by decide +kernel
theorem dX3_read_83 : decode cX3_read 83 = .ok (.iload 6, 2) := by decide +kernel
theorem dX3_read_85 : decode cX3_read 85 = .ok (.bipush 45, 2) := by decide +kernel
theorem dX3_read_87 : decode cX3_read 87 = .ok (.if_icmp .ne 24, 3) := by decide +kernel
theorem dX3_read_90 : decode cX3_read 90 = .ok (.iload_n 1, 1) := by decide +kernel
theorem dX3_read_91 : decode cX3_read 91 = .ok (.ifCond .le 20, 3) := by decide +kernel
theorem dX3_read_94 : decode cX3_read 94 = .ok (.iload 4, 2) := by decide +kernel
theorem dX3_read_96 : decode cX3_read 96 = .ok (.ifCond .ne 15, 3) := by decide +kernel
theorem dX3_read_99 : decode cX3_read 99 = .ok (.iload_n 3, 1) := by decide +kernel
theorem dX3_read_100 : decode cX3_read 100 = .ok (.istore_n 2, 1) := by decide +kernel
theorem dX3_read_101 : decode cX3_read 101 = .ok (.iconst 1, 1) := by decide +kernel
theorem dX3_read_102 : decode cX3_read 102 = .ok (.istore 4, 2) := by decide +kernel
theorem dX3_read_104 : decode cX3_read 104 = .ok (.iconst 0, 1) := by decide +kernel
theorem dX3_read_105 : decode cX3_read 105 = .ok (.istore_n 3, 1) := by decide +kernel
theorem dX3_read_106 : decode cX3_read 106 = .ok (.iconst 0, 1) := by decide +kernel
theorem dX3_read_107 : decode cX3_read 107 = .ok (.istore_n 1, 1) := by decide +kernel
theorem dX3_read_108 : decode cX3_read 108 = .ok (.goto 42, 3) := by decide +kernel
theorem dX3_read_111 : decode cX3_read 111 = .ok (.iload 6, 2) := by decide +kernel
theorem dX3_read_113 : decode cX3_read 113 = .ok (.bipush 44, 2) := by decide +kernel
theorem dX3_read_115 : decode cX3_read 115 = .ok (.if_icmp .ne 32, 3) := by decide +kernel
theorem dX3_read_118 : decode cX3_read 118 = .ok (.iload_n 1, 1) := by decide +kernel
theorem dX3_read_119 : decode cX3_read 119 = .ok (.ifCond .le 28, 3) := by decide +kernel
theorem dX3_read_122 : decode cX3_read 122 = .ok (.aload_n 0, 1) := by decide +kernel
theorem dX3_read_123 : decode cX3_read 123 = .ok (.iload 4, 2) := by decide +kernel
theorem dX3_read_125 : decode cX3_read 125 = .ok (.ifCond .eq 7, 3) := by decide +kernel
theorem dX3_read_128 : decode cX3_read 128 = .ok (.iload_n 2, 1) := by decide +kernel
theorem dX3_read_129 : decode cX3_read 129 = .ok (.goto 4, 3) := by decide +kernel
theorem dX3_read_132 : decode cX3_read 132 = .ok (.iload_n 3, 1) := by decide +kernel
theorem dX3_read_133 : decode cX3_read 133 = .ok (.iload_n 3, 1) := by decide +kernel
theorem dX3_read_134 : decode cX3_read 134 = .ok (.invokevirtual 29, 3) := by decide +kernel
theorem dX3_read_137 : decode cX3_read 137 = .ok (.iconst 0, 1) := by decide +kernel
theorem dX3_read_138 : decode cX3_read 138 = .ok (.istore 4, 2) := by decide +kernel
theorem dX3_read_140 : decode cX3_read 140 = .ok (.iconst 0, 1) := by decide +kernel
theorem dX3_read_141 : decode cX3_read 141 = .ok (.istore_n 3, 1) := by decide +kernel
theorem dX3_read_142 : decode cX3_read 142 = .ok (.iconst 0, 1) := by decide +kernel
theorem dX3_read_143 : decode cX3_read 143 = .ok (.istore_n 1, 1) := by decide +kernel
theorem dX3_read_144 : decode cX3_read 144 = .ok (.goto 6, 3) := by decide +kernel
theorem dX3_read_147 : decode cX3_read 147 = .ok (.iload 5, 2) := by decide +kernel
theorem dX3_read_149 : decode cX3_read 149 = .ok (.ireturn, 1) := by decide +kernel
theorem dX3_read_150 : decode cX3_read 150 = .ok (.iinc 5 1, 3) := by decide +kernel
theorem dX3_read_153 : decode cX3_read 153 = .ok (.goto (-136), 3) := by decide +kernel
theorem dX3_read_156 : decode cX3_read 156 = .ok (.iload_n 1, 1) := by decide +kernel
theorem dX3_read_157 : decode cX3_read 157 = .ok (.ifCond .ne 8, 3) := by decide +kernel
theorem dX3_read_160 : decode cX3_read 160 = .ok (.aload_n 0, 1) := by decide +kernel
theorem dX3_read_161 : decode cX3_read 161 = .ok (.getfield 26, 3) := by decide +kernel
theorem dX3_read_164 : decode cX3_read 164 = .ok (.ireturn, 1) := by decide +kernel
theorem dX3_read_165 : decode cX3_read 165 = .ok (.aload_n 0, 1) := by decide +kernel
theorem dX3_read_166 : decode cX3_read 166 = .ok (.iload 4, 2) := by decide +kernel
theorem dX3_read_168 : decode cX3_read 168 = .ok (.ifCond .eq 7, 3) := by decide +kernel
theorem dX3_read_171 : decode cX3_read 171 = .ok (.iload_n 2, 1) := by decide +kernel
theorem dX3_read_172 : decode cX3_read 172 = .ok (.goto 4, 3) := by decide +kernel
theorem dX3_read_175 : decode cX3_read 175 = .ok (.iload_n 3, 1) := by decide +kernel
theorem dX3_read_176 : decode cX3_read 176 = .ok (.iload_n 3, 1) := by decide +kernel
theorem dX3_read_177 : decode cX3_read 177 = .ok (.invokevirtual 29, 3) := by decide +kernel
theorem dX3_read_180 : decode cX3_read 180 = .ok (.iconst (-1), 1) := by decide +kernel
theorem dX3_read_181 : decode cX3_read 181 = .ok (.ireturn, 1) := by decide +kernel
theorem dX3_noteRange_0 : decode cX3_noteRange 0 = .ok (.aload_n 0, 1) := by decide +kernel
theorem dX3_noteRange_1 : decode cX3_noteRange 1 = .ok (.getfield 22, 3) := by decide +kernel
theorem dX3_noteRange_4 : decode cX3_noteRange 4 = .ok (.bipush 30, 2) := by decide +kernel
theorem dX3_noteRange_6 : decode cX3_noteRange 6 = .ok (.if_icmp .ge 33, 3) := by decide +kernel
theorem dX3_noteRange_9 : decode cX3_noteRange 9 = .ok (.aload_n 0, 1) := by decide +kernel
theorem dX3_noteRange_10 : decode cX3_noteRange 10 = .ok (.getfield 15, 3) := by decide +kernel
theorem dX3_noteRange_13 : decode cX3_noteRange 13 = .ok (.aload_n 0, 1) := by decide +kernel
theorem dX3_noteRange_14 : decode cX3_noteRange 14 = .ok (.getfield 22, 3) := by decide +kernel
theorem dX3_noteRange_17 : decode cX3_noteRange 17 = .ok (.iload_n 1, 1) := by decide +kernel
theorem dX3_noteRange_18 : decode cX3_noteRange 18 = .ok (.iastore, 1) := by decide +kernel
theorem dX3_noteRange_19 : decode cX3_noteRange 19 = .ok (.aload_n 0, 1) := by decide +kernel
theorem dX3_noteRange_20 : decode cX3_noteRange 20 = .ok (.getfield 19, 3) := by decide +kernel
theorem dX3_noteRange_23 : decode cX3_noteRange 23 = .ok (.aload_n 0, 1) := by decide +kernel
theorem dX3_noteRange_24 : decode cX3_noteRange 24 = .ok (.getfield 22, 3) := by decide +kernel
theorem dX3_noteRange_27 : decode cX3_noteRange 27 = .ok (.iload_n 2, 1) := by decide +kernel
theorem dX3_noteRange_28 : decode cX3_noteRange 28 = .ok (.iastore, 1) := by decide +kernel
theorem dX3_noteRange_29 : decode cX3_noteRange 29 = .ok (.aload_n 0, 1) := by decide +kernel
theorem dX3_noteRange_30 : decode cX3_noteRange 30 = .ok (.dup, 1) := by decide +kernel
theorem dX3_noteRange_31 : decode cX3_noteRange 31 = .ok (.getfield 22, 3) := by decide +kernel
theorem dX3_noteRange_34 : decode cX3_noteRange 34 = .ok (.iconst 1, 1) := by decide +kernel
theorem dX3_noteRange_35 : decode cX3_noteRange 35 = .ok (.iadd, 1) := by decide +kernel
theorem dX3_noteRange_36 : decode cX3_noteRange 36 = .ok (.putfield 22, 3) := by decide +kernel
theorem dX3_noteRange_39 : decode cX3_noteRange 39 = .ok (.return_, 1) := by decide +kernel
set_option maxRecDepth 20000 in
theorem ggX3_hasGoodValues_X4_isNumber : GoodIn wsX3_hasGoodValues wsX4_isNumber := goodIn_r _ [6] (by decide +kernel) (by decide +kernel)
set_option maxRecDepth 20000 in
theorem gX3_hasGoodValues_X4_isNumber_n33 : GoodIn wsX3_hasGoodValues (wsX4_isNumber) := ggX3_hasGoodValues_X4_isNumber
theorem dX3_hasGoodValues_0 : decode cX3_hasGoodValues 0 = .ok (.iconst 0, 1) := by decide +kernel
theorem dX3_hasGoodValues_1 : decode cX3_hasGoodValues 1 = .ok (.istore_n 1, 1) := by decide +kernel
theorem dX3_hasGoodValues_2 : decode cX3_hasGoodValues 2 = .ok (.iload_n 1, 1) := by decide +kernel
theorem dX3_hasGoodValues_3 : decode cX3_hasGoodValues 3 = .ok (.aload_n 0, 1) := by decide +kernel
theorem dX3_hasGoodValues_4 : decode cX3_hasGoodValues 4 = .ok (.getfield 22, 3) := by decide +kernel
theorem dX3_hasGoodValues_7 : decode cX3_hasGoodValues 7 = .ok (.if_icmp .ge 50, 3) := by decide +kernel
theorem dX3_hasGoodValues_10 : decode cX3_hasGoodValues 10 = .ok (.aload_n 0, 1) := by decide +kernel
theorem dX3_hasGoodValues_11 : decode cX3_hasGoodValues 11 = .ok (.getfield 15, 3) := by decide +kernel
theorem dX3_hasGoodValues_14 : decode cX3_hasGoodValues 14 = .ok (.iload_n 1, 1) := by decide +kernel
theorem dX3_hasGoodValues_15 : decode cX3_hasGoodValues 15 = .ok (.iaload, 1) := by decide +kernel
theorem dX3_hasGoodValues_16 : decode cX3_hasGoodValues 16 = .ok (.invokestatic 33, 3) := by decide +kernel
theorem dX3_hasGoodValues_19 : decode cX3_hasGoodValues 19 = .ok (.ifCond .eq 30, 3) := by decide +kernel
theorem dX3_hasGoodValues_22 : decode cX3_hasGoodValues 22 = .ok (.aload_n 0, 1) := by decide +kernel
theorem dX3_hasGoodValues_23 : decode cX3_hasGoodValues 23 = .ok (.getfield 19, 3) := by decide +kernel
theorem dX3_hasGoodValues_26 : decode cX3_hasGoodValues 26 = .ok (.iload_n 1, 1) := by decide +kernel
theorem dX3_hasGoodValues_27 : decode cX3_hasGoodValues 27 = .ok (.iaload, 1) := by decide +kernel
theorem dX3_hasGoodValues_28 : decode cX3_hasGoodValues 28 = .ok (.invokestatic 33, 3) := by decide +kernel
theorem dX3_hasGoodValues_31 : decode cX3_hasGoodValues 31 = .ok (.ifCond .eq 18, 3) := by decide +kernel
theorem dX3_hasGoodValues_34 : decode cX3_hasGoodValues 34 = .ok (.aload_n 0, 1) := by decide +kernel
theorem dX3_hasGoodValues_35 : decode cX3_hasGoodValues 35 = .ok (.getfield 19, 3) := by decide +kernel
theorem dX3_hasGoodValues_38 : decode cX3_hasGoodValues 38 = .ok (.iload_n 1, 1) := by decide +kernel
theorem dX3_hasGoodValues_39 : decode cX3_hasGoodValues 39 = .ok (.iaload, 1) := by decide +kernel
theorem dX3_hasGoodValues_40 : decode cX3_hasGoodValues 40 = .ok (.aload_n 0, 1) := by decide +kernel
theorem dX3_hasGoodValues_41 : decode cX3_hasGoodValues 41 = .ok (.getfield 15, 3) := by decide +kernel
theorem dX3_hasGoodValues_44 : decode cX3_hasGoodValues 44 = .ok (.iload_n 1, 1) := by decide +kernel
theorem dX3_hasGoodValues_45 : decode cX3_hasGoodValues 45 = .ok (.iaload, 1) := by decide +kernel
theorem dX3_hasGoodValues_46 : decode cX3_hasGoodValues 46 = .ok (.if_icmp .ge 5, 3) := by decide +kernel
theorem dX3_hasGoodValues_49 : decode cX3_hasGoodValues 49 = .ok (.iconst 0, 1) := by decide +kernel
theorem dX3_hasGoodValues_50 : decode cX3_hasGoodValues 50 = .ok (.ireturn, 1) := by decide +kernel
theorem dX3_hasGoodValues_51 : decode cX3_hasGoodValues 51 = .ok (.iinc 1 1, 3) := by decide +kernel
theorem dX3_hasGoodValues_54 : decode cX3_hasGoodValues 54 = .ok (.goto (-52), 3) := by decide +kernel
theorem dX3_hasGoodValues_57 : decode cX3_hasGoodValues 57 = .ok (.iconst 1, 1) := by decide +kernel
theorem dX3_hasGoodValues_58 : decode cX3_hasGoodValues 58 = .ok (.ireturn, 1) := by decide +kernel
set_option maxRecDepth 20000 in
theorem ggX4_init_X1_init : GoodIn wsX4_init wsX1_init := goodIn_r _ [24, 25, 2, 3, 26, 27, 18, 19, 28, 29, 30, 31, 32, 33, 34, 35, 36, 37, 54, 55, 69, 70, 71, 72, 73, 74, 75] (by decide +kernel) (by decide +kernel)
set_option maxRecDepth 20000 in
theorem gX4_init_X1_init : GoodIn wsX4_init (wsX1_init) := ggX4_init_X1_init
set_option maxRecDepth 20000 in
theorem ggX4_init_X2_init : GoodIn wsX4_init wsX2_init := goodIn_r _ [40, 41, 2, 3, 42, 43, 5, 6, 44, 23, 24, 25, 26, 27, 18, 19, 28, 29, 30, 31, 32, 33, 34, 35, 36, 37, 62, 63, 54, 55, 69, 70, 71, 72, 73, 74, 75] (by decide +kernel) (by decide +kernel)
set_option maxRecDepth 20000 in
theorem gX4_init_X2_init : GoodIn wsX4_init (wsX2_init) := ggX4_init_X2_init
set_option maxRecDepth 20000 in
theorem ggX4_init_X3_init : GoodIn wsX4_init wsX3_init := goodIn_r _ [47, 48, 2, 3, 49, 50, 34, 51, 52, 64, 65, 66, 67, 68] (by decide +kernel) (by decide +kernel)
set_option maxRecDepth 20000 in
theorem gX4_init_X3_init : GoodIn wsX4_init (wsX3_init) := ggX4_init_X3_init
set_option maxRecDepth 20000 in
theorem ggX4_init_X0_init : GoodIn wsX4_init wsX0_init := goodIn_r _ [30, 31, 2, 3, 32, 33, 34, 35, 36, 37, 69, 70, 71, 72, 73, 74, 75] (by decide +kernel) (by decide +kernel)
set_option maxRecDepth 20000 in
theorem gX4_init_X0_init : GoodIn wsX4_init (wsX0_init) := ggX4_init_X0_init
theorem dJ13_bitCount_95d88_0 : decode cJ13_bitCount_95d88 0 = .ok (.lload_n 0, 1) := by decide +kernel
theorem dJ13_bitCount_95d88_1 : decode cJ13_bitCount_95d88 1 = .ok (.lload_n 0, 1) := by decide +kernel
theorem dJ13_bitCount_95d88_2 : decode cJ13_bitCount_95d88 2 = .ok (.iconst 1, 1) := by decide +kernel
theorem dJ13_bitCount_95d88_3 : decode cJ13_bitCount_95d88 3 = .ok (.lushr, 1) := by decide +kernel
theorem dJ13_bitCount_95d88_4 : decode cJ13_bitCount_95d88 4 = .ok (.ldc2_w 314, 3) := by decide +kernel
theorem dJ13_bitCount_95d88_7 : decode cJ13_bitCount_95d88 7 = .ok (.land, 1) := by decide +kernel
theorem dJ13_bitCount_95d88_8 : decode cJ13_bitCount_95d88 8 = .ok (.lsub, 1) := by decide +kernel
theorem dJ13_bitCount_95d88_9 : decode cJ13_bitCount_95d88 9 = .ok (.lstore_n 0, 1) := by decide +kernel
theorem dJ13_bitCount_95d88_10 : decode cJ13_bitCount_95d88 10 = .ok (.lload_n 0, 1) := by decide +kernel
theorem dJ13_bitCount_95d88_11 : decode cJ13_bitCount_95d88 11 = .ok (.ldc2_w 316, 3) := by decide +kernel
theorem dJ13_bitCount_95d88_14 : decode cJ13_bitCount_95d88 14 = .ok (.land, 1) := by decide +kernel
theorem dJ13_bitCount_95d88_15 : decode cJ13_bitCount_95d88 15 = .ok (.lload_n 0, 1) := by decide +kernel
theorem dJ13_bitCount_95d88_16 : decode cJ13_bitCount_95d88 16 = .ok (.iconst 2, 1) := by decide +kernel
theorem dJ13_bitCount_95d88_17 : decode cJ13_bitCount_95d88 17 = .ok (.lushr, 1) := by decide +kernel
theorem dJ13_bitCount_95d88_18 : decode cJ13_bitCount_95d88 18 = .ok (.ldc2_w 316, 3) := by decide +kernel
theorem dJ13_bitCount_95d88_21 : decode cJ13_bitCount_95d88 21 = .ok (.land, 1) := by decide +kernel
theorem dJ13_bitCount_95d88_22 : decode cJ13_bitCount_95d88 22 = .ok (.ladd, 1) := by decide +kernel
theorem dJ13_bitCount_95d88_23 : decode cJ13_bitCount_95d88 23 = .ok (.lstore_n 0, 1) := by decide +kernel
theorem dJ13_bitCount_95d88_24 : decode cJ13_bitCount_95d88 24 = .ok (.lload_n 0, 1) := by decide +kernel
theorem dJ13_bitCount_95d88_25 : decode cJ13_bitCount_95d88 25 = .ok (.lload_n 0, 1) := by decide +kernel
theorem dJ13_bitCount_95d88_26 : decode cJ13_bitCount_95d88 26 = .ok (.iconst 4, 1) := by decide +kernel
theorem dJ13_bitCount_95d88_27 : decode cJ13_bitCount_95d88 27 = .ok (.lushr, 1) := by decide +kernel
theorem dJ13_bitCount_95d88_28 : decode cJ13_bitCount_95d88 28 = .ok (.ladd, 1) := by decide +kernel
theorem dJ13_bitCount_95d88_29 : decode cJ13_bitCount_95d88 29 = .ok (.ldc2_w 318, 3) := by decide +kernel
theorem dJ13_bitCount_95d88_32 : decode cJ13_bitCount_95d88 32 = .ok (.land, 1) := by decide +kernel
theorem dJ13_bitCount_95d88_33 : decode cJ13_bitCount_95d88 33 = .ok (.lstore_n 0, 1) := by decide +kernel
theorem dJ13_bitCount_95d88_34 : decode cJ13_bitCount_95d88 34 = .ok (.lload_n 0, 1) := by decide +kernel
theorem dJ13_bitCount_95d88_35 : decode cJ13_bitCount_95d88 35 = .ok (.lload_n 0, 1) := by decide +kernel
theorem dJ13_bitCount_95d88_36 : decode cJ13_bitCount_95d88 36 = .ok (.bipush 8, 2) := by decide +kernel
theorem dJ13_bitCount_95d88_38 : decode cJ13_bitCount_95d88 38 = .ok (.lushr, 1) := by decide +kernel
theorem dJ13_bitCount_95d88_39 : decode cJ13_bitCount_95d88 39 = .ok (.ladd, 1) := by decide +kernel
theorem dJ13_bitCount_95d88_40 : decode cJ13_bitCount_95d88 40 = .ok (.lstore_n 0, 1) := by decide +kernel
theorem dJ13_bitCount_95d88_41 : decode cJ13_bitCount_95d88 41 = .ok (.lload_n 0, 1) := by decide +kernel
theorem dJ13_bitCount_95d88_42 : decode cJ13_bitCount_95d88 42 = .ok (.lload_n 0, 1) := by decide +kernel
theorem dJ13_bitCount_95d88_43 : decode cJ13_bitCount_95d88 43 = .ok (.bipush 16, 2) := by decide +kernel
theorem dJ13_bitCount_95d88_45 : decode cJ13_bitCount_95d88 45 = .ok (.lushr, 1) := by decide +kernel
theorem dJ13_bitCount_95d88_46 : decode cJ13_bitCount_95d88 46 = .ok (.ladd, 1) := by decide +kernel
theorem dJ13_bitCount_95d88_47 : decode cJ13_bitCount_95d88 47 = .ok (.lstore_n 0, 1) := by decide +kernel
theorem dJ13_bitCount_95d88_48 : decode cJ13_bitCount_95d88 48 = .ok (.lload_n 0, 1) := by decide +kernel
theorem dJ13_bitCount_95d88_49 : decode cJ13_bitCount_95d88 49 = .ok (.lload_n 0, 1) := by decide +kernel
theorem dJ13_bitCount_95d88_50 : decode cJ13_bitCount_95d88 50 = .ok (.bipush 32, 2) := by decide +kernel
theorem dJ13_bitCount_95d88_52 : decode cJ13_bitCount_95d88 52 = .ok (.lushr, 1) := by decide +kernel
theorem dJ13_bitCount_95d88_53 : decode cJ13_bitCount_95d88 53 = .ok (.ladd, 1) := by decide +kernel
theorem dJ13_bitCount_95d88_54 : decode cJ13_bitCount_95d88 54 = .ok (.lstore_n 0, 1) := by decide +kernel
theorem dJ13_bitCount_95d88_55 : decode cJ13_bitCount_95d88 55 = .ok (.lload_n 0, 1) := by decide +kernel
theorem dJ13_bitCount_95d88_56 : decode cJ13_bitCount_95d88 56 = .ok (.l2i, 1) := by decide +kernel
theorem dJ13_bitCount_95d88_57 : decode cJ13_bitCount_95d88 57 = .ok (.bipush 127, 2) := by decide +kernel
theorem dJ13_bitCount_95d88_59 : decode cJ13_bitCount_95d88 59 = .ok (.iand, 1) := by decide +kernel
theorem dJ13_bitCount_95d88_60 : decode cJ13_bitCount_95d88 60 = .ok (.ireturn, 1) := by decide +kernel
theorem dJ9_max_7cf53_0 : decode cJ9_max_7cf53 0 = .ok (.iload_n 0, 1) := by decide +kernel
theorem dJ9_max_7cf53_1 : decode cJ9_max_7cf53 1 = .ok (.iload_n 1, 1) := by decide +kernel
theorem dJ9_max_7cf53_2 : decode cJ9_max_7cf53 2 = .ok (.if_icmp .lt 7, 3) := by decide +kernel
theorem dJ9_max_7cf53_5 : decode cJ9_max_7cf53 5 = .ok (.iload_n 0, 1) := by decide +kernel
theorem dJ9_max_7cf53_6 : decode cJ9_max_7cf53 6 = .ok (.goto 4, 3) := by decide +kernel
theorem dJ9_max_7cf53_9 : decode cJ9_max_7cf53 9 = .ok (.iload_n 1, 1) := by decide +kernel
theorem dJ9_max_7cf53_10 : decode cJ9_max_7cf53 10 = .ok (.ireturn, 1) := by decide +kernel
theorem dJ9_min_7cf53_0 : decode cJ9_min_7cf53 0 = .ok (.iload_n 0, 1) := by decide +kernel
theorem dJ9_min_7cf53_1 : decode cJ9_min_7cf53 1 = .ok (.iload_n 1, 1) := by decide +kernel
theorem dJ9_min_7cf53_2 : decode cJ9_min_7cf53 2 = .ok (.if_icmp .gt 7, 3) := by decide +kernel
theorem dJ9_min_7cf53_5 : decode cJ9_min_7cf53 5 = .ok (.iload_n 0, 1) := by decide +kernel
theorem dJ9_min_7cf53_6 : decode cJ9_min_7cf53 6 = .ok (.goto 4, 3) := by decide +kernel
theorem dJ9_min_7cf53_9 : decode cJ9_min_7cf53 9 = .ok (.iload_n 1, 1) := by decide +kernel
theorem dJ9_min_7cf53_10 : decode cJ9_min_7cf53 10 = .ok (.ireturn, 1) := by decide +kernel
theorem dJ7_fill_d0a16_0 : decode cJ7_fill_d0a16 0 = .ok (.iconst 0, 1) := by decide +kernel
theorem dJ7_fill_d0a16_1 : decode cJ7_fill_d0a16 1 = .ok (.istore_n 3, 1) := by decide +kernel
theorem dJ7_fill_d0a16_2 : decode cJ7_fill_d0a16 2 = .ok (.aload_n 0, 1) := by decide +kernel
theorem dJ7_fill_d0a16_3 : decode cJ7_fill_d0a16 3 = .ok (.arraylength, 1) := by decide +kernel
theorem dJ7_fill_d0a16_4 : decode cJ7_fill_d0a16 4 = .ok (.istore 4, 2) := by decide +kernel
theorem dJ7_fill_d0a16_6 : decode cJ7_fill_d0a16 6 = .ok (.iload_n 3, 1) := by decide +kernel
theorem dJ7_fill_d0a16_7 : decode cJ7_fill_d0a16 7 = .ok (.iload 4, 2) := by decide +kernel
theorem dJ7_fill_d0a16_9 : decode cJ7_fill_d0a16 9 = .ok (.if_icmp .ge 13, 3) := by decide +kernel
theorem dJ7_fill_d0a16_12 : decode cJ7_fill_d0a16 12 = .ok (.aload_n 0, 1) := by decide +kernel
theorem dJ7_fill_d0a16_13 : decode cJ7_fill_d0a16 13 = .ok (.iload_n 3, 1) := by decide +kernel
theorem dJ7_fill_d0a16_14 : decode cJ7_fill_d0a16 14 = .ok (.lload_n 1, 1) := by decide +kernel
theorem dJ7_fill_d0a16_15 : decode cJ7_fill_d0a16 15 = .ok (.lastore, 1) := by decide +kernel
theorem dJ7_fill_d0a16_16 : decode cJ7_fill_d0a16 16 = .ok (.iinc 3 1, 3) := by decide +kernel
theorem dJ7_fill_d0a16_19 : decode cJ7_fill_d0a16 19 = .ok (.goto (-13), 3) := by decide +kernel
theorem dJ7_fill_d0a16_22 : decode cJ7_fill_d0a16 22 = .ok (.return_, 1) := by decide +kernel
theorem dJ7_fill_53178_0 : decode cJ7_fill_53178 0 = .ok (.iconst 0, 1) := by decide +kernel
theorem dJ7_fill_53178_1 : decode cJ7_fill_53178 1 = .ok (.istore_n 2, 1) := by decide +kernel
theorem dJ7_fill_53178_2 : decode cJ7_fill_53178 2 = .ok (.aload_n 0, 1) := by decide +kernel
theorem dJ7_fill_53178_3 : decode cJ7_fill_53178 3 = .ok (.arraylength, 1) := by decide +kernel
theorem dJ7_fill_53178_4 : decode cJ7_fill_53178 4 = .ok (.istore_n 3, 1) := by decide +kernel
theorem dJ7_fill_53178_5 : decode cJ7_fill_53178 5 = .ok (.iload_n 2, 1) := by decide +kernel
theorem dJ7_fill_53178_6 : decode cJ7_fill_53178 6 = .ok (.iload_n 3, 1) := by decide +kernel
theorem dJ7_fill_53178_7 : decode cJ7_fill_53178 7 = .ok (.if_icmp .ge 13, 3) := by decide +kernel
theorem dJ7_fill_53178_10 : decode cJ7_fill_53178 10 = .ok (.aload_n 0, 1) := by decide +kernel
theorem dJ7_fill_53178_11 : decode cJ7_fill_53178 11 = .ok (.iload_n 2, 1) := by decide +kernel
theorem dJ7_fill_53178_12 : decode cJ7_fill_53178 12 = .ok (.iload_n 1, 1) := by decide +kernel
theorem dJ7_fill_53178_13 : decode cJ7_fill_53178 13 = .ok (.iastore, 1) := by decide +kernel
theorem dJ7_fill_53178_14 : decode cJ7_fill_53178 14 = .ok (.iinc 2 1, 3) := by decide +kernel
theorem dJ7_fill_53178_17 : decode cJ7_fill_53178 17 = .ok (.goto (-12), 3) := by decide +kernel
theorem dJ7_fill_53178_20 : decode cJ7_fill_53178 20 = .ok (.return_, 1) := by decide +kernel
theorem dX4_isNumber_0 : decode cX4_isNumber 0 = .ok (.iload_n 0, 1) := by decide +kernel
theorem dX4_isNumber_1 : decode cX4_isNumber 1 = .ok (.ifCond .lt 14, 3) := by decide +kernel
theorem dX4_isNumber_4 : decode cX4_isNumber 4 = .ok (.iload_n 0, 1) := by decide +kernel
theorem dX4_isNumber_5 : decode cX4_isNumber 5 = .ok (.sipush 2048, 3) := by decide +kernel
theorem dX4_isNumber_8 : decode cX4_isNumber 8 = .ok (.if_icmp .ge 7, 3) := by decide +kernel
theorem dX4_isNumber_11 : decode cX4_isNumber 11 = .ok (.iconst 1, 1) := by decide +kernel
theorem dX4_isNumber_12 : decode cX4_isNumber 12 = .ok (.goto 4, 3) := by decide +kernel
theorem dX4_isNumber_15 : decode cX4_isNumber 15 = .ok (.iconst 0, 1) := by decide +kernel
theorem dX4_isNumber_16 : decode cX4_isNumber 16 = .ok (.ireturn, 1) := by decide +kernel
theorem dX4_join_0 : decode cX4_join 0 = .ok (.iload_n 0, 1) := by decide +kernel
theorem dX4_join_1 : decode cX4_join 1 = .ok (.tableswitch 43 0 2 #[27, 31, 35], 27) := by decide +kernel
theorem dX4_join_28 : decode cX4_join 28 = .ok (.lload_n 1, 1) := by decide +kernel
theorem dX4_join_29 : decode cX4_join 29 = .ok (.lload_n 3, 1) := by decide +kernel
theorem dX4_join_30 : decode cX4_join 30 = .ok (.lor, 1) := by decide +kernel
theorem dX4_join_31 : decode cX4_join 31 = .ok (.lreturn, 1) := by decide +kernel
theorem dX4_join_32 : decode cX4_join 32 = .ok (.lload_n 1, 1) := by decide +kernel
theorem dX4_join_33 : decode cX4_join 33 = .ok (.lload_n 3, 1) := by decide +kernel
theorem dX4_join_34 : decode cX4_join 34 = .ok (.land, 1) := by decide +kernel
theorem dX4_join_35 : decode cX4_join 35 = .ok (.lreturn, 1) := by decide +kernel
theorem dX4_join_36 : decode cX4_join 36 = .ok (.lload_n 1, 1) := by decide +kernel
theorem dX4_join_37 : decode cX4_join 37 = .ok (.lload_n 3, 1) := by decide +kernel
theorem dX4_join_38 : decode cX4_join 38 = .ok (.ldc2_w 217, 3) := by decide +kernel
theorem dX4_join_41 : decode cX4_join 41 = .ok (.lxor, 1) := by decide +kernel
theorem dX4_join_42 : decode cX4_join 42 = .ok (.land, 1) := by decide +kernel
theorem dX4_join_43 : decode cX4_join 43 = .ok (.lreturn, 1) := by decide +kernel
theorem dX4_join_44 : decode cX4_join 44 = .ok (.lload_n 1, 1) := by decide +kernel
theorem dX4_join_45 : decode cX4_join 45 = .ok (.lload_n 3, 1) := by decide +kernel
theorem dX4_join_46 : decode cX4_join 46 = .ok (.lxor, 1) := by decide +kernel
theorem dX4_join_47 : decode cX4_join 47 = .ok (.lreturn, 1) := by decide +kernel
