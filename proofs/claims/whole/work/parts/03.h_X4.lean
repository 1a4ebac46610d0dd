set_option maxRecDepth 20000 in
theorem ggX4_init_X3_init : GoodIn wsX4_init wsX3_init := goodIn_r _ [15, 16, 2, 3, 6, 17, 18, 19, 20, 21, 22, 28, 29, 30, 31, 32, 33] (by decide +kernel) (by decide +kernel)
set_option maxRecDepth 20000 in
theorem gX4_init_X3_init : GoodIn wsX4_init (wsX3_init) := ggX4_init_X3_init
theorem dX4_init_0 : decode cX4_init 0 = .ok (.aload_n 0, 1) := by decide +kernel
theorem dX4_init_1 : decode cX4_init 1 = .ok (.invokespecial 3, 3) := by decide +kernel
theorem dX4_init_4 : decode cX4_init 4 = .ok (.aload_n 0, 1) := by decide +kernel
theorem dX4_init_5 : decode cX4_init 5 = .ok (.iconst 3, 1) := by decide +kernel
theorem dX4_init_6 : decode cX4_init 6 = .ok (.anewarray 9, 3) := by decide +kernel
theorem dX4_init_9 : decode cX4_init 9 = .ok (.putfield 11, 3) := by decide +kernel
theorem dX4_init_12 : decode cX4_init 12 = .ok (.aload_n 0, 1) := by decide +kernel
theorem dX4_init_13 : decode cX4_init 13 = .ok (.iconst 2, 1) := by decide +kernel
theorem dX4_init_14 : decode cX4_init 14 = .ok (.newarray .int, 2) := by decide +kernel
theorem dX4_init_16 : decode cX4_init 16 = .ok (.putfield 17, 3) := by decide +kernel
theorem dX4_init_19 : decode cX4_init 19 = .ok (.aload_n 0, 1) := by decide +kernel
theorem dX4_init_20 : decode cX4_init 20 = .ok (.iconst 0, 1) := by decide +kernel
theorem dX4_init_21 : decode cX4_init 21 = .ok (.putfield 21, 3) := by decide +kernel
theorem dX4_init_24 : decode cX4_init 24 = .ok (.aload_n 0, 1) := by decide +kernel
theorem dX4_init_25 : decode cX4_init 25 = .ok (.iconst 0, 1) := by decide +kernel
theorem dX4_init_26 : decode cX4_init 26 = .ok (.putfield 25, 3) := by decide +kernel
theorem dX4_init_29 : decode cX4_init 29 = .ok (.aload_n 0, 1) := by decide +kernel
theorem dX4_init_30 : decode cX4_init 30 = .ok (.aload_n 1, 1) := by decide +kernel
theorem dX4_init_31 : decode cX4_init 31 = .ok (.putfield 29, 3) := by decide +kernel
theorem dX4_init_34 : decode cX4_init 34 = .ok (.iconst 0, 1) := by decide +kernel
theorem dX4_init_35 : decode cX4_init 35 = .ok (.istore_n 2, 1) := by decide +kernel
theorem dX4_init_36 : decode cX4_init 36 = .ok (.iload_n 2, 1) := by decide +kernel
theorem dX4_init_37 : decode cX4_init 37 = .ok (.aload_n 0, 1) := by decide +kernel
theorem dX4_init_38 : decode cX4_init 38 = .ok (.getfield 11, 3) := by decide +kernel
theorem dX4_init_41 : decode cX4_init 41 = .ok (.arraylength, 1) := by decide +kernel
theorem dX4_init_42 : decode cX4_init 42 = .ok (.if_icmp .ge 22, 3) := by decide +kernel
theorem dX4_init_45 : decode cX4_init 45 = .ok (.aload_n 0, 1) := by decide +kernel
theorem dX4_init_46 : decode cX4_init 46 = .ok (.getfield 11, 3) := by decide +kernel
theorem dX4_init_49 : decode cX4_init 49 = .ok (.iload_n 2, 1) := by decide +kernel
theorem dX4_init_50 : decode cX4_init 50 = .ok (.new 9, 3) := by decide +kernel
theorem dX4_init_53 : decode cX4_init 53 = .ok (.dup, 1) := by decide +kernel
theorem dX4_init_54 : decode cX4_init 54 = .ok (.invokespecial 33, 3) := by decide +kernel
theorem dX4_init_57 : decode cX4_init 57 = .ok (.aastore, 1) := by decide +kernel
theorem dX4_init_58 : decode cX4_init 58 = .ok (.iinc 2 1, 3) := by decide +kernel
theorem dX4_init_61 : decode cX4_init 61 = .ok (.goto (-25), 3) := by decide +kernel
theorem dX4_init_64 : decode cX4_init 64 = .ok (.return_, 1) := by decide +kernel
set_option maxRecDepth 20000 in
theorem ggX4_begin_X3_copyFrom : GoodIn wsX4_begin wsX3_copyFrom := goodIn_r _ [15, 16, 17, 18, 19, 20, 21, 22, 23, 24, 25, 31, 32, 33, 34, 35, 36] (by decide +kernel) (by decide +kernel)
set_option maxRecDepth 20000 in
theorem gX4_begin_X3_copyFrom : GoodIn wsX4_begin (wsV RX4 34 RX3 yX3_copyFrom wsX3_copyFrom) := goodIn_app (goodIn_of _ (by decide +kernel)) ggX4_begin_X3_copyFrom
theorem dX4_begin_0 : decode cX4_begin 0 = .ok (.aload_n 0, 1) := by decide +kernel
theorem dX4_begin_1 : decode cX4_begin 1 = .ok (.getfield 11, 3) := by decide +kernel
theorem dX4_begin_4 : decode cX4_begin 4 = .ok (.iconst 0, 1) := by decide +kernel
theorem dX4_begin_5 : decode cX4_begin 5 = .ok (.aaload, 1) := by decide +kernel
theorem dX4_begin_6 : decode cX4_begin 6 = .ok (.aload_n 1, 1) := by decide +kernel
theorem dX4_begin_7 : decode cX4_begin 7 = .ok (.invokevirtual 34, 3) := by decide +kernel
theorem dX4_begin_10 : decode cX4_begin 10 = .ok (.aload_n 0, 1) := by decide +kernel
theorem dX4_begin_11 : decode cX4_begin 11 = .ok (.iconst 0, 1) := by decide +kernel
theorem dX4_begin_12 : decode cX4_begin 12 = .ok (.iload_n 2, 1) := by decide +kernel
theorem dX4_begin_13 : decode cX4_begin 13 = .ok (.iconst 2, 1) := by decide +kernel
theorem dX4_begin_14 : decode cX4_begin 14 = .ok (.invokestatic 38, 3) := by decide +kernel
theorem dX4_begin_17 : decode cX4_begin 17 = .ok (.invokestatic 44, 3) := by decide +kernel
theorem dX4_begin_20 : decode cX4_begin 20 = .ok (.putfield 21, 3) := by decide +kernel
theorem dX4_begin_23 : decode cX4_begin 23 = .ok (.aload_n 0, 1) := by decide +kernel
theorem dX4_begin_24 : decode cX4_begin 24 = .ok (.iconst 0, 1) := by decide +kernel
theorem dX4_begin_25 : decode cX4_begin 25 = .ok (.putfield 25, 3) := by decide +kernel
theorem dX4_begin_28 : decode cX4_begin 28 = .ok (.return_, 1) := by decide +kernel
theorem dX4_end_0 : decode cX4_end 0 = .ok (.aload_n 0, 1) := by decide +kernel
theorem dX4_end_1 : decode cX4_end 1 = .ok (.getfield 21, 3) := by decide +kernel
theorem dX4_end_4 : decode cX4_end 4 = .ok (.ifCond .lt 27, 3) := by decide +kernel
theorem dX4_end_7 : decode cX4_end 7 = .ok (.aload_n 0, 1) := by decide +kernel
theorem dX4_end_8 : decode cX4_end 8 = .ok (.getfield 21, 3) := by decide +kernel
theorem dX4_end_11 : decode cX4_end 11 = .ok (.aload_n 0, 1) := by decide +kernel
theorem dX4_end_12 : decode cX4_end 12 = .ok (.getfield 11, 3) := by decide +kernel
theorem dX4_end_15 : decode cX4_end 15 = .ok (.arraylength, 1) := by decide +kernel
theorem dX4_end_16 : decode cX4_end 16 = .ok (.if_icmp .ge 15, 3) := by decide +kernel
theorem dX4_end_19 : decode cX4_end 19 = .ok (.aload_n 0, 1) := by decide +kernel
theorem dX4_end_20 : decode cX4_end 20 = .ok (.getfield 11, 3) := by decide +kernel
theorem dX4_end_23 : decode cX4_end 23 = .ok (.aload_n 0, 1) := by decide +kernel
theorem dX4_end_24 : decode cX4_end 24 = .ok (.getfield 21, 3) := by decide +kernel
theorem dX4_end_27 : decode cX4_end 27 = .ok (.aaload, 1) := by decide +kernel
theorem dX4_end_28 : decode cX4_end 28 = .ok (.goto 9, 3) := by decide +kernel
theorem dX4_end_31 : decode cX4_end 31 = .ok (.aload_n 0, 1) := by decide +kernel
theorem dX4_end_32 : decode cX4_end 32 = .ok (.getfield 11, 3) := by decide +kernel
theorem dX4_end_35 : decode cX4_end 35 = .ok (.iconst 0, 1) := by decide +kernel
theorem dX4_end_36 : decode cX4_end 36 = .ok (.aaload, 1) := by decide +kernel
theorem dX4_end_37 : decode cX4_end 37 = .ok (.areturn, 1) := by decide +kernel
theorem dX4_copyTo_0 : decode cX4_copyTo 0 = .ok (.aload_n 0, 1) := by decide +kernel
theorem dX4_copyTo_1 : decode cX4_copyTo 1 = .ok (.getfield 17, 3) := by decide +kernel
theorem dX4_copyTo_4 : decode cX4_copyTo 4 = .ok (.iconst 0, 1) := by decide +kernel
theorem dX4_copyTo_5 : decode cX4_copyTo 5 = .ok (.aload_n 1, 1) := by decide +kernel
theorem dX4_copyTo_6 : decode cX4_copyTo 6 = .ok (.iconst 0, 1) := by decide +kernel
theorem dX4_copyTo_7 : decode cX4_copyTo 7 = .ok (.aload_n 0, 1) := by decide +kernel
theorem dX4_copyTo_8 : decode cX4_copyTo 8 = .ok (.getfield 21, 3) := by decide +kernel
theorem dX4_copyTo_11 : decode cX4_copyTo 11 = .ok (.aload_n 1, 1) := by decide +kernel
theorem dX4_copyTo_12 : decode cX4_copyTo 12 = .ok (.arraylength, 1) := by decide +kernel
theorem dX4_copyTo_13 : decode cX4_copyTo 13 = .ok (.invokestatic 38, 3) := by decide +kernel
theorem dX4_copyTo_16 : decode cX4_copyTo 16 = .ok (.invokestatic 47, 3) := by decide +kernel
theorem dX4_copyTo_19 : decode cX4_copyTo 19 = .ok (.return_, 1) := by decide +kernel
set_option maxRecDepth 20000 in
theorem ggX4_next_X4_makeNextMove : GoodIn wsX4_next wsX4_makeNextMove := goodIn_r _ [9, 3, 10, 11, 12, 13, 14, 15, 16, 17, 18, 19, 20, 21, 22, 23, 24, 25, 26, 27, 28, 29, 30, 31, 32, 33, 34, 35, 36, 37, 38, 39, 40, 41, 42, 43, 44, 45, 46, 47, 48, 49, 50, 51, 52, 53, 54, 55, 56, 57, 58, 59, 60, 61, 62, 63, 64, 65, 66, 67, 68, 69, 70, 71, 72, 73, 74, 75, 76, 77, 78, 79, 80, 81, 82, 83, 84, 85, 86, 87, 88, 89, 90, 91, 92, 93, 94, 95, 96] (by decide +kernel) (by decide +kernel)
set_option maxRecDepth 20000 in
theorem gX4_next_X4_makeNextMove : GoodIn wsX4_next (wsV RX4 54 RX4 yX4_makeNextMove wsX4_makeNextMove) := goodIn_app (goodIn_of _ (by decide +kernel)) ggX4_next_X4_makeNextMove
theorem dX4_next_0 : decode cX4_next 0 = .ok (.aload_n 0, 1) := by decide +kernel
theorem dX4_next_1 : decode cX4_next 1 = .ok (.getfield 25, 3) := by decide +kernel
theorem dX4_next_4 : decode cX4_next 4 = .ok (.ifCond .ne 7, 3) := by decide +kernel
theorem dX4_next_7 : decode cX4_next 7 = .ok (.iconst 1, 1) := by decide +kernel
theorem dX4_next_8 : decode cX4_next 8 = .ok (.goto 4, 3) := by decide +kernel
theorem dX4_next_11 : decode cX4_next 11 = .ok (.iconst 0, 1) := by decide +kernel
theorem dX4_next_12 : decode cX4_next 12 = .ok (.istore_n 1, 1) := by decide +kernel
theorem dX4_next_13 : decode cX4_next 13 = .ok (.aload_n 0, 1) := by decide +kernel
theorem dX4_next_14 : decode cX4_next 14 = .ok (.iconst 1, 1) := by decide +kernel
theorem dX4_next_15 : decode cX4_next 15 = .ok (.putfield 25, 3) := by decide +kernel
theorem dX4_next_18 : decode cX4_next 18 = .ok (.aload_n 0, 1) := by decide +kernel
theorem dX4_next_19 : decode cX4_next 19 = .ok (.getfield 21, 3) := by decide +kernel
theorem dX4_next_22 : decode cX4_next 22 = .ok (.ifCond .ne 5, 3) := by decide +kernel
theorem dX4_next_25 : decode cX4_next 25 = .ok (.iload_n 1, 1) := by decide +kernel
theorem dX4_next_26 : decode cX4_next 26 = .ok (.ireturn, 1) := by decide +kernel
theorem dX4_next_27 : decode cX4_next 27 = .ok (.iload_n 1, 1) := by decide +kernel
theorem dX4_next_28 : decode cX4_next 28 = .ok (.ifCond .eq 7, 3) := by decide +kernel
theorem dX4_next_31 : decode cX4_next 31 = .ok (.iconst 0, 1) := by decide +kernel
theorem dX4_next_32 : decode cX4_next 32 = .ok (.goto 9, 3) := by decide +kernel
theorem dX4_next_35 : decode cX4_next 35 = .ok (.aload_n 0, 1) := by decide +kernel
theorem dX4_next_36 : decode cX4_next 36 = .ok (.getfield 21, 3) := by decide +kernel
theorem dX4_next_39 : decode cX4_next 39 = .ok (.iconst 1, 1) := by decide +kernel
theorem dX4_next_40 : decode cX4_next 40 = .ok (.isub, 1) := by decide +kernel
theorem dX4_next_41 : decode cX4_next 41 = .ok (.istore_n 2, 1) := by decide +kernel
theorem dX4_next_42 : decode cX4_next 42 = .ok (.iload_n 1, 1) := by decide +kernel
theorem dX4_next_43 : decode cX4_next 43 = .ok (.ifCond .eq 10, 3) := by decide +kernel
theorem dX4_next_46 : decode cX4_next 46 = .ok (.aload_n 0, 1) := by decide +kernel
theorem dX4_next_47 : decode cX4_next 47 = .ok (.getfield 17, 3) := by decide +kernel
theorem dX4_next_50 : decode cX4_next 50 = .ok (.iconst 0, 1) := by decide +kernel
theorem dX4_next_51 : decode cX4_next 51 = .ok (.iconst (-1), 1) := by decide +kernel
theorem dX4_next_52 : decode cX4_next 52 = .ok (.iastore, 1) := by decide +kernel
theorem dX4_next_53 : decode cX4_next 53 = .ok (.iconst 0, 1) := by decide +kernel
theorem dX4_next_54 : decode cX4_next 54 = .ok (.istore_n 3, 1) := by decide +kernel
theorem dX4_next_55 : decode cX4_next 55 = .ok (.iload_n 3, 1) := by decide +kernel
theorem dX4_next_56 : decode cX4_next 56 = .ok (.ldc 53, 2) := by decide +kernel
theorem dX4_next_58 : decode cX4_next 58 = .ok (.if_icmp .ge 57, 3) := by decide +kernel
theorem dX4_next_61 : decode cX4_next 61 = .ok (.iload_n 2, 1) := by decide +kernel
theorem dX4_next_62 : decode cX4_next 62 = .ok (.ifCond .lt 53, 3) := by decide +kernel
theorem dX4_next_65 : decode cX4_next 65 = .ok (.iload_n 2, 1) := by decide +kernel
theorem dX4_next_66 : decode cX4_next 66 = .ok (.aload_n 0, 1) := by decide +kernel
theorem dX4_next_67 : decode cX4_next 67 = .ok (.getfield 21, 3) := by decide +kernel
theorem dX4_next_70 : decode cX4_next 70 = .ok (.if_icmp .ge 45, 3) := by decide +kernel
theorem dX4_next_73 : decode cX4_next 73 = .ok (.aload_n 0, 1) := by decide +kernel
theorem dX4_next_74 : decode cX4_next 74 = .ok (.iload_n 2, 1) := by decide +kernel
theorem dX4_next_75 : decode cX4_next 75 = .ok (.invokevirtual 54, 3) := by decide +kernel
theorem dX4_next_78 : decode cX4_next 78 = .ok (.ifCond .ne 9, 3) := by decide +kernel
theorem dX4_next_81 : decode cX4_next 81 = .ok (.iinc 2 (-1), 3) := by decide +kernel
theorem dX4_next_84 : decode cX4_next 84 = .ok (.goto 25, 3) := by decide +kernel
theorem dX4_next_87 : decode cX4_next 87 = .ok (.iload_n 2, 1) := by decide +kernel
theorem dX4_next_88 : decode cX4_next 88 = .ok (.aload_n 0, 1) := by decide +kernel
theorem dX4_next_89 : decode cX4_next 89 = .ok (.getfield 21, 3) := by decide +kernel
theorem dX4_next_92 : decode cX4_next 92 = .ok (.iconst 1, 1) := by decide +kernel
theorem dX4_next_93 : decode cX4_next 93 = .ok (.isub, 1) := by decide +kernel
theorem dX4_next_94 : decode cX4_next 94 = .ok (.if_icmp .ne 5, 3) := by decide +kernel
theorem dX4_next_97 : decode cX4_next 97 = .ok (.iconst 1, 1) := by decide +kernel
theorem dX4_next_98 : decode cX4_next 98 = .ok (.ireturn, 1) := by decide +kernel
theorem dX4_next_99 : decode cX4_next 99 = .ok (.iinc 2 1, 3) := by decide +kernel
theorem dX4_next_102 : decode cX4_next 102 = .ok (.aload_n 0, 1) := by decide +kernel
theorem dX4_next_103 : decode cX4_next 103 = .ok (.getfield 17, 3) := by decide +kernel
theorem dX4_next_106 : decode cX4_next 106 = .ok (.iload_n 2, 1) := by decide +kernel
theorem dX4_next_107 : decode cX4_next 107 = .ok (.iconst (-1), 1) := by decide +kernel
theorem dX4_next_108 : decode cX4_next 108 = .ok (.iastore, 1) := by decide +kernel
theorem dX4_next_109 : decode cX4_next 109 = .ok (.iinc 3 1, 3) := by decide +kernel
theorem dX4_next_112 : decode cX4_next 112 = .ok (.goto (-57), 3) := by decide +kernel
theorem dX4_next_115 : decode cX4_next 115 = .ok (.iconst 0, 1) := by decide +kernel
theorem dX4_next_116 : decode cX4_next 116 = .ok (.ireturn, 1) := by decide +kernel
set_option maxRecDepth 20000 in
theorem ggX4_makeNextMove_X2_mayBeMoved : GoodIn wsX4_makeNextMove wsX2_mayBeMoved := goodIn_r _ [8, 9, 10, 11, 12, 13, 14, 15, 16, 17, 7, 18, 19, 20, 21, 22, 23, 24, 25, 26, 27, 28, 29, 30, 31, 32, 33, 34, 35, 36, 37, 38, 39, 40, 41, 42, 43, 44, 45, 46, 47, 76, 77, 78, 79, 80, 81, 82, 83, 84, 85, 86, 87, 88] (by decide +kernel) (by decide +kernel)
set_option maxRecDepth 20000 in
theorem gX4_makeNextMove_X2_mayBeMoved : GoodIn wsX4_makeNextMove (wsV RX4 58 RX2 yX2_mayBeMoved wsX2_mayBeMoved) := goodIn_app (goodIn_of _ (by decide +kernel)) ggX4_makeNextMove_X2_mayBeMoved
set_option maxRecDepth 20000 in
theorem ggX4_makeNextMove_X3_copyFrom : GoodIn wsX4_makeNextMove wsX3_copyFrom := goodIn_r _ [51, 14, 52, 53, 54, 55, 38, 56, 33, 57, 58, 76, 77, 78, 79, 80, 81] (by decide +kernel) (by decide +kernel)
set_option maxRecDepth 20000 in
theorem gX4_makeNextMove_X3_copyFrom : GoodIn wsX4_makeNextMove (wsV RX4 34 RX3 yX3_copyFrom wsX3_copyFrom) := goodIn_app (goodIn_of _ (by decide +kernel)) ggX4_makeNextMove_X3_copyFrom
set_option maxRecDepth 20000 in
theorem ggX4_makeNextMove_X2_bringInto : GoodIn wsX4_makeNextMove wsX2_bringInto := goodIn_r _ [62, 63, 64, 65, 12, 66, 14, 33, 39, 40, 41, 7, 42, 23, 43, 67, 68, 69, 70, 38, 76, 77, 78, 79, 80, 81, 82, 83, 84, 85, 86, 87, 88] (by decide +kernel) (by decide +kernel)
set_option maxRecDepth 20000 in
theorem gX4_makeNextMove_X2_bringInto : GoodIn wsX4_makeNextMove (wsV RX4 64 RX2 yX2_bringInto wsX2_bringInto) := goodIn_app (goodIn_of _ (by decide +kernel)) ggX4_makeNextMove_X2_bringInto
theorem dX4_makeNextMove_0 : decode cX4_makeNextMove 0 = .ok (.iload_n 1, 1) := by decide +kernel
theorem dX4_makeNextMove_1 : decode cX4_makeNextMove 1 = .ok (.ifCond .lt 23, 3) := by decide +kernel
theorem dX4_makeNextMove_4 : decode cX4_makeNextMove 4 = .ok (.iload_n 1, 1) := by decide +kernel
theorem dX4_makeNextMove_5 : decode cX4_makeNextMove 5 = .ok (.aload_n 0, 1) := by decide +kernel
theorem dX4_makeNextMove_6 : decode cX4_makeNextMove 6 = .ok (.getfield 17, 3) := by decide +kernel
theorem dX4_makeNextMove_9 : decode cX4_makeNextMove 9 = .ok (.arraylength, 1) := by decide +kernel
theorem dX4_makeNextMove_10 : decode cX4_makeNextMove 10 = .ok (.if_icmp .ge 14, 3) := by decide +kernel
theorem dX4_makeNextMove_13 : decode cX4_makeNextMove 13 = .ok (.iload_n 1, 1) := by decide +kernel
theorem dX4_makeNextMove_14 : decode cX4_makeNextMove 14 = .ok (.iconst 1, 1) := by decide +kernel
theorem dX4_makeNextMove_15 : decode cX4_makeNextMove 15 = .ok (.iadd, 1) := by decide +kernel
theorem dX4_makeNextMove_16 : decode cX4_makeNextMove 16 = .ok (.aload_n 0, 1) := by decide +kernel
theorem dX4_makeNextMove_17 : decode cX4_makeNextMove 17 = .ok (.getfield 11, 3) := by decide +kernel
theorem dX4_makeNextMove_20 : decode cX4_makeNextMove 20 = .ok (.arraylength, 1) := by decide +kernel
theorem dX4_makeNextMove_21 : decode cX4_makeNextMove 21 = .ok (.if_icmp .lt 5, 3) := by decide +kernel
theorem dX4_makeNextMove_24 : decode cX4_makeNextMove 24 = .ok (.iconst 0, 1) := by decide +kernel
theorem dX4_makeNextMove_25 : decode cX4_makeNextMove 25 = .ok (.ireturn, 1) := by decide +kernel
theorem dX4_makeNextMove_26 : decode cX4_makeNextMove 26 = .ok (.aload_n 0, 1) := by decide +kernel
theorem dX4_makeNextMove_27 : decode cX4_makeNextMove 27 = .ok (.getfield 17, 3) := by decide +kernel
theorem dX4_makeNextMove_30 : decode cX4_makeNextMove 30 = .ok (.iload_n 1, 1) := by decide +kernel
theorem dX4_makeNextMove_31 : decode cX4_makeNextMove 31 = .ok (.iaload, 1) := by decide +kernel
theorem dX4_makeNextMove_32 : decode cX4_makeNextMove 32 = .ok (.iconst 1, 1) := by decide +kernel
theorem dX4_makeNextMove_33 : decode cX4_makeNextMove 33 = .ok (.iadd, 1) := by decide +kernel
theorem dX4_makeNextMove_34 : decode cX4_makeNextMove 34 = .ok (.istore_n 2, 1) := by decide +kernel
theorem dX4_makeNextMove_35 : decode cX4_makeNextMove 35 = .ok (.iload_n 2, 1) := by decide +kernel
theorem dX4_makeNextMove_36 : decode cX4_makeNextMove 36 = .ok (.bipush 100, 2) := by decide +kernel
theorem dX4_makeNextMove_38 : decode cX4_makeNextMove 38 = .ok (.if_icmp .ge 83, 3) := by decide +kernel
theorem dX4_makeNextMove_41 : decode cX4_makeNextMove 41 = .ok (.iload_n 2, 1) := by decide +kernel
theorem dX4_makeNextMove_42 : decode cX4_makeNextMove 42 = .ok (.bipush 10, 2) := by decide +kernel
theorem dX4_makeNextMove_44 : decode cX4_makeNextMove 44 = .ok (.idiv, 1) := by decide +kernel
theorem dX4_makeNextMove_45 : decode cX4_makeNextMove 45 = .ok (.istore_n 3, 1) := by decide +kernel
theorem dX4_makeNextMove_46 : decode cX4_makeNextMove 46 = .ok (.iload_n 2, 1) := by decide +kernel
theorem dX4_makeNextMove_47 : decode cX4_makeNextMove 47 = .ok (.bipush 10, 2) := by decide +kernel
theorem dX4_makeNextMove_49 : decode cX4_makeNextMove 49 = .ok (.irem, 1) := by decide +kernel
theorem dX4_makeNextMove_50 : decode cX4_makeNextMove 50 = .ok (.istore 4, 2) := by decide +kernel
theorem dX4_makeNextMove_52 : decode cX4_makeNextMove 52 = .ok (.aload_n 0, 1) := by decide +kernel
theorem dX4_makeNextMove_53 : decode cX4_makeNextMove 53 = .ok (.getfield 29, 3) := by decide +kernel
theorem dX4_makeNextMove_56 : decode cX4_makeNextMove 56 = .ok (.iload_n 3, 1) := by decide +kernel
theorem dX4_makeNextMove_57 : decode cX4_makeNextMove 57 = .ok (.iload 4, 2) := by decide +kernel
theorem dX4_makeNextMove_59 : decode cX4_makeNextMove 59 = .ok (.aload_n 0, 1) := by decide +kernel
theorem dX4_makeNextMove_60 : decode cX4_makeNextMove 60 = .ok (.getfield 11, 3) := by decide +kernel
theorem dX4_makeNextMove_63 : decode cX4_makeNextMove 63 = .ok (.iload_n 1, 1) := by decide +kernel
theorem dX4_makeNextMove_64 : decode cX4_makeNextMove 64 = .ok (.aaload, 1) := by decide +kernel
theorem dX4_makeNextMove_65 : decode cX4_makeNextMove 65 = .ok (.invokevirtual 58, 3) := by decide +kernel
theorem dX4_makeNextMove_68 : decode cX4_makeNextMove 68 = .ok (.ifCond .eq 47, 3) := by decide +kernel
theorem dX4_makeNextMove_71 : decode cX4_makeNextMove 71 = .ok (.aload_n 0, 1) := by decide +kernel
theorem dX4_makeNextMove_72 : decode cX4_makeNextMove 72 = .ok (.getfield 17, 3) := by decide +kernel
theorem dX4_makeNextMove_75 : decode cX4_makeNextMove 75 = .ok (.iload_n 1, 1) := by decide +kernel
theorem dX4_makeNextMove_76 : decode cX4_makeNextMove 76 = .ok (.iload_n 2, 1) := by decide +kernel
theorem dX4_makeNextMove_77 : decode cX4_makeNextMove 77 = .ok (.iastore, 1) := by decide +kernel
theorem dX4_makeNextMove_78 : decode cX4_makeNextMove 78 = .ok (.aload_n 0, 1) := by decide +kernel
theorem dX4_makeNextMove_79 : decode cX4_makeNextMove 79 = .ok (.getfield 11, 3) := by decide +kernel
theorem dX4_makeNextMove_82 : decode cX4_makeNextMove 82 = .ok (.iload_n 1, 1) := by decide +kernel
theorem dX4_makeNextMove_83 : decode cX4_makeNextMove 83 = .ok (.iconst 1, 1) := by decide +kernel
theorem dX4_makeNextMove_84 : decode cX4_makeNextMove 84 = .ok (.iadd, 1) := by decide +kernel
theorem dX4_makeNextMove_85 : decode cX4_makeNextMove 85 = .ok (.aaload, 1) := by decide +kernel
theorem dX4_makeNextMove_86 : decode cX4_makeNextMove 86 = .ok (.aload_n 0, 1) := by decide +kernel
theorem dX4_makeNextMove_87 : decode cX4_makeNextMove 87 = .ok (.getfield 11, 3) := by decide +kernel
theorem dX4_makeNextMove_90 : decode cX4_makeNextMove 90 = .ok (.iload_n 1, 1) := by decide +kernel
theorem dX4_makeNextMove_91 : decode cX4_makeNextMove 91 = .ok (.aaload, 1) := by decide +kernel
theorem dX4_makeNextMove_92 : decode cX4_makeNextMove 92 = .ok (.invokevirtual 34, 3) := by decide +kernel
theorem dX4_makeNextMove_95 : decode cX4_makeNextMove 95 = .ok (.aload_n 0, 1) := by decide +kernel
theorem dX4_makeNextMove_96 : decode cX4_makeNextMove 96 = .ok (.getfield 29, 3) := by decide +kernel
theorem dX4_makeNextMove_99 : decode cX4_makeNextMove 99 = .ok (.iload_n 3, 1) := by decide +kernel
theorem dX4_makeNextMove_100 : decode cX4_makeNextMove 100 = .ok (.iload 4, 2) := by decide +kernel
theorem dX4_makeNextMove_102 : decode cX4_makeNextMove 102 = .ok (.aload_n 0, 1) := by decide +kernel
theorem dX4_makeNextMove_103 : decode cX4_makeNextMove 103 = .ok (.getfield 11, 3) := by decide +kernel
theorem dX4_makeNextMove_106 : decode cX4_makeNextMove 106 = .ok (.iload_n 1, 1) := by decide +kernel
theorem dX4_makeNextMove_107 : decode cX4_makeNextMove 107 = .ok (.iconst 1, 1) := by decide +kernel
theorem dX4_makeNextMove_108 : decode cX4_makeNextMove 108 = .ok (.iadd, 1) := by decide +kernel
theorem dX4_makeNextMove_109 : decode cX4_makeNextMove 109 = .ok (.aaload, 1) := by decide +kernel
theorem dX4_makeNextMove_110 : decode cX4_makeNextMove 110 = .ok (.invokevirtual 64, 3) := by decide +kernel
theorem dX4_makeNextMove_113 : decode cX4_makeNextMove 113 = .ok (.iconst 1, 1) := by decide +kernel
theorem dX4_makeNextMove_114 : decode cX4_makeNextMove 114 = .ok (.ireturn, 1) := by decide +kernel
theorem dX4_makeNextMove_115 : decode cX4_makeNextMove 115 = .ok (.iinc 2 1, 3) := by decide +kernel
theorem dX4_makeNextMove_118 : decode cX4_makeNextMove 118 = .ok (.goto (-83), 3) := by decide +kernel
theorem dX4_makeNextMove_121 : decode cX4_makeNextMove 121 = .ok (.iconst 0, 1) := by decide +kernel
theorem dX4_makeNextMove_122 : decode cX4_makeNextMove 122 = .ok (.ireturn, 1) := by decide +kernel
