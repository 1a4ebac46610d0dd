set_option maxRecDepth 20000 in
theorem ggX5_init_X4_init : GoodIn wsX5_init wsX4_init := goodIn_r _ [15, 16, 2, 3, 17, 18, 4, 19, 20, 21, 22, 23, 24, 25, 26, 27, 28, 29, 30, 31, 32, 33, 34, 40, 41, 42, 43, 44, 45, 46, 47, 48, 49, 50] (by decide +kernel) (by decide +kernel)
set_option maxRecDepth 20000 in
theorem gX5_init_X4_init : GoodIn wsX5_init (wsX4_init) := ggX5_init_X4_init
theorem dX5_init_0 : decode cX5_init 0 = .ok (.aload_n 0, 1) := by decide +kernel
theorem dX5_init_1 : decode cX5_init 1 = .ok (.invokespecial 3, 3) := by decide +kernel
theorem dX5_init_4 : decode cX5_init 4 = .ok (.aload_n 0, 1) := by decide +kernel
theorem dX5_init_5 : decode cX5_init 5 = .ok (.iconst 2, 1) := by decide +kernel
theorem dX5_init_6 : decode cX5_init 6 = .ok (.newarray .int, 2) := by decide +kernel
theorem dX5_init_8 : decode cX5_init 8 = .ok (.putfield 9, 3) := by decide +kernel
theorem dX5_init_11 : decode cX5_init 11 = .ok (.aload_n 0, 1) := by decide +kernel
theorem dX5_init_12 : decode cX5_init 12 = .ok (.iconst 0, 1) := by decide +kernel
theorem dX5_init_13 : decode cX5_init 13 = .ok (.putfield 15, 3) := by decide +kernel
theorem dX5_init_16 : decode cX5_init 16 = .ok (.aload_n 0, 1) := by decide +kernel
theorem dX5_init_17 : decode cX5_init 17 = .ok (.aload_n 1, 1) := by decide +kernel
theorem dX5_init_18 : decode cX5_init 18 = .ok (.putfield 19, 3) := by decide +kernel
theorem dX5_init_21 : decode cX5_init 21 = .ok (.aload_n 0, 1) := by decide +kernel
theorem dX5_init_22 : decode cX5_init 22 = .ok (.aload_n 2, 1) := by decide +kernel
theorem dX5_init_23 : decode cX5_init 23 = .ok (.putfield 23, 3) := by decide +kernel
theorem dX5_init_26 : decode cX5_init 26 = .ok (.aload_n 0, 1) := by decide +kernel
theorem dX5_init_27 : decode cX5_init 27 = .ok (.new 27, 3) := by decide +kernel
theorem dX5_init_30 : decode cX5_init 30 = .ok (.dup, 1) := by decide +kernel
theorem dX5_init_31 : decode cX5_init 31 = .ok (.aload_n 1, 1) := by decide +kernel
theorem dX5_init_32 : decode cX5_init 32 = .ok (.invokespecial 29, 3) := by decide +kernel
theorem dX5_init_35 : decode cX5_init 35 = .ok (.putfield 32, 3) := by decide +kernel
theorem dX5_init_38 : decode cX5_init 38 = .ok (.return_, 1) := by decide +kernel
theorem dX5_foundMove_0 : decode cX5_foundMove 0 = .ok (.iload_n 1, 1) := by decide +kernel
theorem dX5_foundMove_1 : decode cX5_foundMove 1 = .ok (.ifCond .lt 29, 3) := by decide +kernel
theorem dX5_foundMove_4 : decode cX5_foundMove 4 = .ok (.iload_n 1, 1) := by decide +kernel
theorem dX5_foundMove_5 : decode cX5_foundMove 5 = .ok (.aload_n 0, 1) := by decide +kernel
theorem dX5_foundMove_6 : decode cX5_foundMove 6 = .ok (.getfield 15, 3) := by decide +kernel
theorem dX5_foundMove_9 : decode cX5_foundMove 9 = .ok (.if_icmp .ge 21, 3) := by decide +kernel
theorem dX5_foundMove_12 : decode cX5_foundMove 12 = .ok (.iload_n 1, 1) := by decide +kernel
theorem dX5_foundMove_13 : decode cX5_foundMove 13 = .ok (.aload_n 0, 1) := by decide +kernel
theorem dX5_foundMove_14 : decode cX5_foundMove 14 = .ok (.getfield 9, 3) := by decide +kernel
theorem dX5_foundMove_17 : decode cX5_foundMove 17 = .ok (.arraylength, 1) := by decide +kernel
theorem dX5_foundMove_18 : decode cX5_foundMove 18 = .ok (.if_icmp .ge 12, 3) := by decide +kernel
theorem dX5_foundMove_21 : decode cX5_foundMove 21 = .ok (.aload_n 0, 1) := by decide +kernel
theorem dX5_foundMove_22 : decode cX5_foundMove 22 = .ok (.getfield 9, 3) := by decide +kernel
theorem dX5_foundMove_25 : decode cX5_foundMove 25 = .ok (.iload_n 1, 1) := by decide +kernel
theorem dX5_foundMove_26 : decode cX5_foundMove 26 = .ok (.iaload, 1) := by decide +kernel
theorem dX5_foundMove_27 : decode cX5_foundMove 27 = .ok (.goto 5, 3) := by decide +kernel
theorem dX5_foundMove_30 : decode cX5_foundMove 30 = .ok (.bipush (-9), 2) := by decide +kernel
theorem dX5_foundMove_32 : decode cX5_foundMove 32 = .ok (.ireturn, 1) := by decide +kernel
set_option maxRecDepth 20000 in
theorem ggX5_leastLeak_X2_leakOf : GoodIn wsX5_leastLeak wsX2_leakOf := goodIn_r _ [10, 11, 12, 13, 14, 15, 16, 17, 18, 19, 20, 9, 21, 22, 122, 123, 124, 125, 126, 127, 128, 129, 130, 131, 132, 133, 134] (by decide +kernel) (by decide +kernel)
set_option maxRecDepth 20000 in
theorem gX5_leastLeak_X2_leakOf : GoodIn wsX5_leastLeak (wsV RX5 36 RX2 yX2_leakOf wsX2_leakOf) := goodIn_app (goodIn_of _ (by decide +kernel)) ggX5_leastLeak_X2_leakOf
set_option maxRecDepth 20000 in
theorem ggX5_leastLeak_X4_begin : GoodIn wsX5_leastLeak wsX4_begin := goodIn_r _ [27, 28, 29, 30, 31, 32, 33, 34, 35, 36, 37, 38, 39, 40, 15, 41, 42, 43, 44, 45, 46, 47, 48, 17, 49, 50, 135, 136, 137, 138, 139, 129, 130, 131, 132, 133, 134] (by decide +kernel) (by decide +kernel)
set_option maxRecDepth 20000 in
theorem gX5_leastLeak_X4_begin : GoodIn wsX5_leastLeak (wsV RX5 42 RX4 yX4_begin wsX4_begin) := goodIn_app (goodIn_of _ (by decide +kernel)) ggX5_leastLeak_X4_begin
set_option maxRecDepth 20000 in
theorem ggX5_leastLeak_X4_next : GoodIn wsX5_leastLeak wsX4_next := goodIn_r _ [54, 37, 36, 55, 56, 57, 58, 59, 26, 60, 28, 61, 62, 63, 64, 9, 65, 66, 67, 68, 15, 69, 42, 70, 71, 72, 73, 74, 75, 76, 77, 11, 78, 79, 80, 81, 82, 12, 13, 14, 16, 17, 83, 84, 85, 86, 47, 87, 88, 89, 90, 91, 92, 93, 94, 95, 38, 39, 40, 41, 43, 44, 45, 46, 48, 49, 50, 96, 97, 98, 99, 100, 101, 102, 103, 104, 105, 106, 107, 135, 136, 137, 138, 139, 129, 130, 131, 132, 133, 134, 122, 123, 124, 125, 126, 127, 128] (by decide +kernel) (by decide +kernel)
set_option maxRecDepth 20000 in
theorem gX5_leastLeak_X4_next : GoodIn wsX5_leastLeak (wsV RX5 47 RX4 yX4_next wsX4_next) := goodIn_app (goodIn_of _ (by decide +kernel)) ggX5_leastLeak_X4_next
set_option maxRecDepth 20000 in
theorem ggX5_leastLeak_X4_end : GoodIn wsX5_leastLeak wsX4_end := goodIn_r _ [111, 36, 28, 135, 136, 137, 138, 139] (by decide +kernel) (by decide +kernel)
set_option maxRecDepth 20000 in
theorem gX5_leastLeak_X4_end : GoodIn wsX5_leastLeak (wsV RX5 51 RX4 yX4_end wsX4_end) := goodIn_app (goodIn_of _ (by decide +kernel)) ggX5_leastLeak_X4_end
set_option maxRecDepth 20000 in
theorem ggX5_leastLeak_X4_copyTo : GoodIn wsX5_leastLeak wsX4_copyTo := goodIn_r _ [115, 55, 36, 29, 30, 31, 32, 116, 44, 45, 46, 135, 136, 137, 138, 139] (by decide +kernel) (by decide +kernel)
set_option maxRecDepth 20000 in
theorem gX5_leastLeak_X4_copyTo : GoodIn wsX5_leastLeak (wsV RX5 55 RX4 yX4_copyTo wsX4_copyTo) := goodIn_app (goodIn_of _ (by decide +kernel)) ggX5_leastLeak_X4_copyTo
theorem dX5_leastLeak_0 : decode cX5_leastLeak 0 = .ok (.aload_n 0, 1) := by decide +kernel
theorem dX5_leastLeak_1 : decode cX5_leastLeak 1 = .ok (.getfield 19, 3) := by decide +kernel
theorem dX5_leastLeak_4 : decode cX5_leastLeak 4 = .ok (.aload_n 1, 1) := by decide +kernel
theorem dX5_leastLeak_5 : decode cX5_leastLeak 5 = .ok (.invokevirtual 36, 3) := by decide +kernel
theorem dX5_leastLeak_8 : decode cX5_leastLeak 8 = .ok (.istore_n 3, 1) := by decide +kernel
theorem dX5_leastLeak_9 : decode cX5_leastLeak 9 = .ok (.aload_n 0, 1) := by decide +kernel
theorem dX5_leastLeak_10 : decode cX5_leastLeak 10 = .ok (.iconst 0, 1) := by decide +kernel
theorem dX5_leastLeak_11 : decode cX5_leastLeak 11 = .ok (.putfield 15, 3) := by decide +kernel
theorem dX5_leastLeak_14 : decode cX5_leastLeak 14 = .ok (.iconst 1, 1) := by decide +kernel
theorem dX5_leastLeak_15 : decode cX5_leastLeak 15 = .ok (.istore 4, 2) := by decide +kernel
theorem dX5_leastLeak_17 : decode cX5_leastLeak 17 = .ok (.iload 4, 2) := by decide +kernel
theorem dX5_leastLeak_19 : decode cX5_leastLeak 19 = .ok (.iload_n 2, 1) := by decide +kernel
theorem dX5_leastLeak_20 : decode cX5_leastLeak 20 = .ok (.if_icmp .gt 93, 3) := by decide +kernel
theorem dX5_leastLeak_23 : decode cX5_leastLeak 23 = .ok (.iload 4, 2) := by decide +kernel
theorem dX5_leastLeak_25 : decode cX5_leastLeak 25 = .ok (.iconst 2, 1) := by decide +kernel
theorem dX5_leastLeak_26 : decode cX5_leastLeak 26 = .ok (.if_icmp .gt 87, 3) := by decide +kernel
theorem dX5_leastLeak_29 : decode cX5_leastLeak 29 = .ok (.aload_n 0, 1) := by decide +kernel
theorem dX5_leastLeak_30 : decode cX5_leastLeak 30 = .ok (.getfield 32, 3) := by decide +kernel
theorem dX5_leastLeak_33 : decode cX5_leastLeak 33 = .ok (.aload_n 1, 1) := by decide +kernel
theorem dX5_leastLeak_34 : decode cX5_leastLeak 34 = .ok (.iload 4, 2) := by decide +kernel
theorem dX5_leastLeak_36 : decode cX5_leastLeak 36 = .ok (.invokevirtual 42, 3) := by decide +kernel
theorem dX5_leastLeak_39 : decode cX5_leastLeak 39 = .ok (.iconst 0, 1) := by decide +kernel
theorem dX5_leastLeak_40 : decode cX5_leastLeak 40 = .ok (.istore 5, 2) := by decide +kernel
theorem dX5_leastLeak_42 : decode cX5_leastLeak 42 = .ok (.iload 5, 2) := by decide +kernel
theorem dX5_leastLeak_44 : decode cX5_leastLeak 44 = .ok (.ldc 46, 2) := by decide +kernel
theorem dX5_leastLeak_46 : decode cX5_leastLeak 46 = .ok (.if_icmp .ge 61, 3) := by decide +kernel
theorem dX5_leastLeak_49 : decode cX5_leastLeak 49 = .ok (.aload_n 0, 1) := by decide +kernel
theorem dX5_leastLeak_50 : decode cX5_leastLeak 50 = .ok (.getfield 32, 3) := by decide +kernel
theorem dX5_leastLeak_53 : decode cX5_leastLeak 53 = .ok (.invokevirtual 47, 3) := by decide +kernel
theorem dX5_leastLeak_56 : decode cX5_leastLeak 56 = .ok (.ifCond .eq 51, 3) := by decide +kernel
theorem dX5_leastLeak_59 : decode cX5_leastLeak 59 = .ok (.aload_n 0, 1) := by decide +kernel
theorem dX5_leastLeak_60 : decode cX5_leastLeak 60 = .ok (.getfield 19, 3) := by decide +kernel
theorem dX5_leastLeak_63 : decode cX5_leastLeak 63 = .ok (.aload_n 0, 1) := by decide +kernel
theorem dX5_leastLeak_64 : decode cX5_leastLeak 64 = .ok (.getfield 32, 3) := by decide +kernel
theorem dX5_leastLeak_67 : decode cX5_leastLeak 67 = .ok (.invokevirtual 51, 3) := by decide +kernel
theorem dX5_leastLeak_70 : decode cX5_leastLeak 70 = .ok (.invokevirtual 36, 3) := by decide +kernel
theorem dX5_leastLeak_73 : decode cX5_leastLeak 73 = .ok (.istore 6, 2) := by decide +kernel
theorem dX5_leastLeak_75 : decode cX5_leastLeak 75 = .ok (.iload 6, 2) := by decide +kernel
theorem dX5_leastLeak_77 : decode cX5_leastLeak 77 = .ok (.iload_n 3, 1) := by decide +kernel
theorem dX5_leastLeak_78 : decode cX5_leastLeak 78 = .ok (.if_icmp .ge 23, 3) := by decide +kernel
theorem dX5_leastLeak_81 : decode cX5_leastLeak 81 = .ok (.iload 6, 2) := by decide +kernel
theorem dX5_leastLeak_83 : decode cX5_leastLeak 83 = .ok (.istore_n 3, 1) := by decide +kernel
theorem dX5_leastLeak_84 : decode cX5_leastLeak 84 = .ok (.aload_n 0, 1) := by decide +kernel
theorem dX5_leastLeak_85 : decode cX5_leastLeak 85 = .ok (.iload 4, 2) := by decide +kernel
theorem dX5_leastLeak_87 : decode cX5_leastLeak 87 = .ok (.putfield 15, 3) := by decide +kernel
theorem dX5_leastLeak_90 : decode cX5_leastLeak 90 = .ok (.aload_n 0, 1) := by decide +kernel
theorem dX5_leastLeak_91 : decode cX5_leastLeak 91 = .ok (.getfield 32, 3) := by decide +kernel
theorem dX5_leastLeak_94 : decode cX5_leastLeak 94 = .ok (.aload_n 0, 1) := by decide +kernel
theorem dX5_leastLeak_95 : decode cX5_leastLeak 95 = .ok (.getfield 9, 3) := by decide +kernel
theorem dX5_leastLeak_98 : decode cX5_leastLeak 98 = .ok (.invokevirtual 55, 3) := by decide +kernel
theorem dX5_leastLeak_101 : decode cX5_leastLeak 101 = .ok (.iinc 5 1, 3) := by decide +kernel
theorem dX5_leastLeak_104 : decode cX5_leastLeak 104 = .ok (.goto (-62), 3) := by decide +kernel
theorem dX5_leastLeak_107 : decode cX5_leastLeak 107 = .ok (.iinc 4 1, 3) := by decide +kernel
theorem dX5_leastLeak_110 : decode cX5_leastLeak 110 = .ok (.goto (-93), 3) := by decide +kernel
theorem dX5_leastLeak_113 : decode cX5_leastLeak 113 = .ok (.iload_n 3, 1) := by decide +kernel
theorem dX5_leastLeak_114 : decode cX5_leastLeak 114 = .ok (.ireturn, 1) := by decide +kernel
set_option maxRecDepth 20000 in
theorem ggX5_fewestMoves_X4_begin : GoodIn wsX5_fewestMoves wsX4_begin := goodIn_r _ [11, 12, 13, 14, 15, 16, 17, 18, 19, 20, 21, 22, 23, 24, 25, 26, 27, 28, 29, 30, 31, 32, 33, 34, 35, 36, 184, 185, 186, 187, 188, 189, 190, 191, 192, 193, 194] (by decide +kernel) (by decide +kernel)
set_option maxRecDepth 20000 in
theorem gX5_fewestMoves_X4_begin : GoodIn wsX5_fewestMoves (wsV RX5 42 RX4 yX4_begin wsX4_begin) := goodIn_app (goodIn_of _ (by decide +kernel)) ggX5_fewestMoves_X4_begin
set_option maxRecDepth 20000 in
theorem ggX5_fewestMoves_X4_next : GoodIn wsX5_fewestMoves wsX4_next := goodIn_r _ [40, 21, 20, 41, 42, 43, 44, 45, 10, 46, 12, 47, 48, 49, 50, 51, 52, 53, 54, 55, 25, 56, 27, 57, 58, 59, 60, 61, 62, 63, 64, 65, 66, 67, 68, 69, 70, 71, 72, 73, 74, 34, 75, 76, 77, 78, 32, 79, 80, 81, 82, 83, 84, 85, 86, 87, 22, 23, 24, 26, 28, 29, 30, 31, 33, 35, 36, 88, 89, 90, 91, 92, 93, 94, 95, 96, 97, 98, 99, 184, 185, 186, 187, 188, 189, 190, 191, 192, 193, 194, 195, 196, 197, 198, 199, 200, 201] (by decide +kernel) (by decide +kernel)
set_option maxRecDepth 20000 in
theorem gX5_fewestMoves_X4_next : GoodIn wsX5_fewestMoves (wsV RX5 47 RX4 yX4_next wsX4_next) := goodIn_app (goodIn_of _ (by decide +kernel)) ggX5_fewestMoves_X4_next
set_option maxRecDepth 20000 in
theorem ggX5_fewestMoves_X4_end : GoodIn wsX5_fewestMoves wsX4_end := goodIn_r _ [103, 20, 12, 184, 185, 186, 187, 188] (by decide +kernel) (by decide +kernel)
set_option maxRecDepth 20000 in
theorem gX5_fewestMoves_X4_end : GoodIn wsX5_fewestMoves (wsV RX5 51 RX4 yX4_end wsX4_end) := goodIn_app (goodIn_of _ (by decide +kernel)) ggX5_fewestMoves_X4_end
set_option maxRecDepth 20000 in
theorem ggX5_fewestMoves_X3_copyFrom : GoodIn wsX5_fewestMoves wsX3_copyFrom := goodIn_r _ [26, 27, 28, 29, 30, 31, 32, 33, 34, 35, 36, 189, 190, 191, 192, 193, 194] (by decide +kernel) (by decide +kernel)
set_option maxRecDepth 20000 in
theorem gX5_fewestMoves_X3_copyFrom : GoodIn wsX5_fewestMoves (wsV RX5 59 RX3 yX3_copyFrom wsX3_copyFrom) := goodIn_app (goodIn_of _ (by decide +kernel)) ggX5_fewestMoves_X3_copyFrom
set_option maxRecDepth 20000 in
theorem ggX5_fewestMoves_X2_watchesAfloat : GoodIn wsX5_fewestMoves wsX2_watchesAfloat := goodIn_r _ [108, 109, 14, 15, 16, 110, 111, 112, 25, 113, 36, 114, 115, 116, 51, 117, 65, 118, 119, 120, 121, 34, 122, 123, 124, 125, 33, 71, 72, 73, 74, 126, 127, 128, 129, 61, 62, 63, 64, 66, 130, 131, 132, 133, 134, 135, 136, 137, 138, 139, 140, 141, 142, 143, 144, 145, 146, 147, 148, 35, 149, 150, 151, 152, 153, 18, 19, 154, 155, 156, 157, 158, 159, 160, 161, 162, 163, 164, 165, 166, 167, 168, 169, 92, 93, 94, 95, 27, 170, 171, 172, 173, 189, 190, 191, 192, 193, 194, 195, 196, 197, 198, 199, 200, 201] (by decide +kernel) (by decide +kernel)
set_option maxRecDepth 20000 in
theorem gX5_fewestMoves_X2_watchesAfloat : GoodIn wsX5_fewestMoves (wsV RX5 65 RX2 yX2_watchesAfloat wsX2_watchesAfloat) := goodIn_app (goodIn_of _ (by decide +kernel)) ggX5_fewestMoves_X2_watchesAfloat
set_option maxRecDepth 20000 in
theorem ggX5_fewestMoves_X4_copyTo : GoodIn wsX5_fewestMoves wsX4_copyTo := goodIn_r _ [177, 41, 20, 13, 14, 15, 16, 178, 29, 30, 31, 184, 185, 186, 187, 188] (by decide +kernel) (by decide +kernel)
set_option maxRecDepth 20000 in
theorem gX5_fewestMoves_X4_copyTo : GoodIn wsX5_fewestMoves (wsV RX5 55 RX4 yX4_copyTo wsX4_copyTo) := goodIn_app (goodIn_of _ (by decide +kernel)) ggX5_fewestMoves_X4_copyTo
theorem dX5_fewestMoves_0 : decode cX5_fewestMoves 0 = .ok (.iconst 0, 1) := by decide +kernel
theorem dX5_fewestMoves_1 : decode cX5_fewestMoves 1 = .ok (.istore_n 3, 1) := by decide +kernel
theorem dX5_fewestMoves_2 : decode cX5_fewestMoves 2 = .ok (.iload_n 3, 1) := by decide +kernel
theorem dX5_fewestMoves_3 : decode cX5_fewestMoves 3 = .ok (.iconst 2, 1) := by decide +kernel
theorem dX5_fewestMoves_4 : decode cX5_fewestMoves 4 = .ok (.if_icmp .gt 91, 3) := by decide +kernel
theorem dX5_fewestMoves_7 : decode cX5_fewestMoves 7 = .ok (.aload_n 0, 1) := by decide +kernel
theorem dX5_fewestMoves_8 : decode cX5_fewestMoves 8 = .ok (.getfield 32, 3) := by decide +kernel
theorem dX5_fewestMoves_11 : decode cX5_fewestMoves 11 = .ok (.aload_n 1, 1) := by decide +kernel
theorem dX5_fewestMoves_12 : decode cX5_fewestMoves 12 = .ok (.iload_n 3, 1) := by decide +kernel
theorem dX5_fewestMoves_13 : decode cX5_fewestMoves 13 = .ok (.invokevirtual 42, 3) := by decide +kernel
theorem dX5_fewestMoves_16 : decode cX5_fewestMoves 16 = .ok (.iconst 0, 1) := by decide +kernel
theorem dX5_fewestMoves_17 : decode cX5_fewestMoves 17 = .ok (.istore 4, 2) := by decide +kernel
theorem dX5_fewestMoves_19 : decode cX5_fewestMoves 19 = .ok (.iload 4, 2) := by decide +kernel
theorem dX5_fewestMoves_21 : decode cX5_fewestMoves 21 = .ok (.ldc 46, 2) := by decide +kernel
theorem dX5_fewestMoves_23 : decode cX5_fewestMoves 23 = .ok (.if_icmp .ge 66, 3) := by decide +kernel
theorem dX5_fewestMoves_26 : decode cX5_fewestMoves 26 = .ok (.aload_n 0, 1) := by decide +kernel
theorem dX5_fewestMoves_27 : decode cX5_fewestMoves 27 = .ok (.getfield 32, 3) := by decide +kernel
theorem dX5_fewestMoves_30 : decode cX5_fewestMoves 30 = .ok (.invokevirtual 47, 3) := by decide +kernel
theorem dX5_fewestMoves_33 : decode cX5_fewestMoves 33 = .ok (.ifCond .eq 56, 3) := by decide +kernel
theorem dX5_fewestMoves_36 : decode cX5_fewestMoves 36 = .ok (.aload_n 0, 1) := by decide +kernel
theorem dX5_fewestMoves_37 : decode cX5_fewestMoves 37 = .ok (.getfield 23, 3) := by decide +kernel
theorem dX5_fewestMoves_40 : decode cX5_fewestMoves 40 = .ok (.aload_n 0, 1) := by decide +kernel
theorem dX5_fewestMoves_41 : decode cX5_fewestMoves 41 = .ok (.getfield 32, 3) := by decide +kernel
theorem dX5_fewestMoves_44 : decode cX5_fewestMoves 44 = .ok (.invokevirtual 51, 3) := by decide +kernel
theorem dX5_fewestMoves_47 : decode cX5_fewestMoves 47 = .ok (.invokevirtual 59, 3) := by decide +kernel
theorem dX5_fewestMoves_50 : decode cX5_fewestMoves 50 = .ok (.aload_n 0, 1) := by decide +kernel
theorem dX5_fewestMoves_51 : decode cX5_fewestMoves 51 = .ok (.getfield 19, 3) := by decide +kernel
theorem dX5_fewestMoves_54 : decode cX5_fewestMoves 54 = .ok (.aload_n 0, 1) := by decide +kernel
theorem dX5_fewestMoves_55 : decode cX5_fewestMoves 55 = .ok (.getfield 23, 3) := by decide +kernel
theorem dX5_fewestMoves_58 : decode cX5_fewestMoves 58 = .ok (.invokevirtual 65, 3) := by decide +kernel
theorem dX5_fewestMoves_61 : decode cX5_fewestMoves 61 = .ok (.iload_n 2, 1) := by decide +kernel
theorem dX5_fewestMoves_62 : decode cX5_fewestMoves 62 = .ok (.if_icmp .lt 21, 3) := by decide +kernel
theorem dX5_fewestMoves_65 : decode cX5_fewestMoves 65 = .ok (.aload_n 0, 1) := by decide +kernel
theorem dX5_fewestMoves_66 : decode cX5_fewestMoves 66 = .ok (.iload_n 3, 1) := by decide +kernel
theorem dX5_fewestMoves_67 : decode cX5_fewestMoves 67 = .ok (.putfield 15, 3) := by decide +kernel
theorem dX5_fewestMoves_70 : decode cX5_fewestMoves 70 = .ok (.aload_n 0, 1) := by decide +kernel
theorem dX5_fewestMoves_71 : decode cX5_fewestMoves 71 = .ok (.getfield 32, 3) := by decide +kernel
theorem dX5_fewestMoves_74 : decode cX5_fewestMoves 74 = .ok (.aload_n 0, 1) := by decide +kernel
theorem dX5_fewestMoves_75 : decode cX5_fewestMoves 75 = .ok (.getfield 9, 3) := by decide +kernel
theorem dX5_fewestMoves_78 : decode cX5_fewestMoves 78 = .ok (.invokevirtual 55, 3) := by decide +kernel
theorem dX5_fewestMoves_81 : decode cX5_fewestMoves 81 = .ok (.iload_n 3, 1) := by decide +kernel
theorem dX5_fewestMoves_82 : decode cX5_fewestMoves 82 = .ok (.ireturn, 1) := by decide +kernel
theorem dX5_fewestMoves_83 : decode cX5_fewestMoves 83 = .ok (.iinc 4 1, 3) := by decide +kernel
theorem dX5_fewestMoves_86 : decode cX5_fewestMoves 86 = .ok (.goto (-67), 3) := by decide +kernel
theorem dX5_fewestMoves_89 : decode cX5_fewestMoves 89 = .ok (.iinc 3 1, 3) := by decide +kernel
theorem dX5_fewestMoves_92 : decode cX5_fewestMoves 92 = .ok (.goto (-90), 3) := by decide +kernel
theorem dX5_fewestMoves_95 : decode cX5_fewestMoves 95 = .ok (.aload_n 0, 1) := by decide +kernel
theorem dX5_fewestMoves_96 : decode cX5_fewestMoves 96 = .ok (.iconst 0, 1) := by decide +kernel
theorem dX5_fewestMoves_97 : decode cX5_fewestMoves 97 = .ok (.putfield 15, 3) := by decide +kernel
theorem dX5_fewestMoves_100 : decode cX5_fewestMoves 100 = .ok (.bipush (-9), 2) := by decide +kernel
theorem dX5_fewestMoves_102 : decode cX5_fewestMoves 102 = .ok (.ireturn, 1) := by decide +kernel
set_option maxRecDepth 20000 in
theorem ggX5_rowsTo_X2_openPlaces : GoodIn wsX5_rowsTo wsX2_openPlaces := goodIn_r _ [8, 9, 10, 11, 12, 13, 14, 15, 135, 136, 137, 138, 139, 140, 141, 142, 143, 144, 145, 146, 147] (by decide +kernel) (by decide +kernel)
set_option maxRecDepth 20000 in
theorem gX5_rowsTo_X2_openPlaces : GoodIn wsX5_rowsTo (wsV RX5 68 RX2 yX2_openPlaces wsX2_openPlaces) := goodIn_app (goodIn_of _ (by decide +kernel)) ggX5_rowsTo_X2_openPlaces
set_option maxRecDepth 20000 in
theorem ggX5_rowsTo_X4_begin : GoodIn wsX5_rowsTo wsX4_begin := goodIn_r _ [20, 21, 22, 23, 24, 25, 26, 27, 28, 29, 30, 31, 32, 33, 13, 34, 35, 36, 37, 38, 39, 40, 41, 15, 42, 43, 148, 149, 150, 151, 152, 142, 143, 144, 145, 146, 147] (by decide +kernel) (by decide +kernel)
set_option maxRecDepth 20000 in
theorem gX5_rowsTo_X4_begin : GoodIn wsX5_rowsTo (wsV RX5 42 RX4 yX4_begin wsX4_begin) := goodIn_app (goodIn_of _ (by decide +kernel)) ggX5_rowsTo_X4_begin
set_option maxRecDepth 20000 in
theorem ggX5_rowsTo_X4_next : GoodIn wsX5_rowsTo wsX4_next := goodIn_r _ [47, 30, 29, 48, 49, 50, 51, 52, 19, 53, 21, 54, 55, 56, 57, 7, 58, 59, 60, 61, 13, 62, 35, 63, 64, 65, 66, 67, 68, 69, 70, 9, 71, 72, 73, 74, 75, 10, 11, 12, 14, 15, 76, 77, 78, 79, 40, 80, 81, 82, 83, 84, 85, 86, 87, 88, 31, 32, 33, 34, 36, 37, 38, 39, 41, 42, 43, 89, 90, 91, 92, 93, 94, 95, 96, 97, 98, 99, 100, 148, 149, 150, 151, 152, 142, 143, 144, 145, 146, 147, 135, 136, 137, 138, 139, 140, 141] (by decide +kernel) (by decide +kernel)
set_option maxRecDepth 20000 in
theorem gX5_rowsTo_X4_next : GoodIn wsX5_rowsTo (wsV RX5 47 RX4 yX4_next wsX4_next) := goodIn_app (goodIn_of _ (by decide +kernel)) ggX5_rowsTo_X4_next
set_option maxRecDepth 20000 in
theorem ggX5_rowsTo_X4_end : GoodIn wsX5_rowsTo wsX4_end := goodIn_r _ [104, 29, 21, 148, 149, 150, 151, 152] (by decide +kernel) (by decide +kernel)
set_option maxRecDepth 20000 in
theorem gX5_rowsTo_X4_end : GoodIn wsX5_rowsTo (wsV RX5 51 RX4 yX4_end wsX4_end) := goodIn_app (goodIn_of _ (by decide +kernel)) ggX5_rowsTo_X4_end
set_option maxRecDepth 20000 in
theorem ggX5_rowsTo_X5_lastMovesTo : GoodIn wsX5_rowsTo wsX5_lastMovesTo := goodIn_r _ [109, 1, 4, 5, 6, 7, 8, 9, 10, 11, 12, 13, 14, 15, 110, 111, 112, 113, 114, 115, 116, 117, 118, 119, 120, 121, 122, 123, 124, 125, 56, 57, 58, 59, 60, 61, 62, 35, 63, 64, 65, 66, 67, 68, 69, 70, 71, 72, 73, 74, 75, 76, 77, 78, 79, 40, 80, 81, 82, 83, 84, 85, 86, 87, 88, 126, 127, 128, 108, 129, 130, 131, 132, 133, 134, 135, 136, 137, 138, 139, 140, 141, 142, 143, 144, 145, 146, 147] (by decide +kernel) (by decide +kernel)
set_option maxRecDepth 20000 in
theorem gX5_rowsTo_X5_lastMovesTo : GoodIn wsX5_rowsTo (wsV RX5 71 RX5 yX5_lastMovesTo wsX5_lastMovesTo) := goodIn_app (goodIn_of _ (by decide +kernel)) ggX5_rowsTo_X5_lastMovesTo
theorem dX5_rowsTo_0 : decode cX5_rowsTo 0 = .ok (.iload_n 3, 1) := by decide +kernel
theorem dX5_rowsTo_1 : decode cX5_rowsTo 1 = .ok (.iconst 1, 1) := by decide +kernel
theorem dX5_rowsTo_2 : decode cX5_rowsTo 2 = .ok (.if_icmp .ge 21, 3) := by decide +kernel
theorem dX5_rowsTo_5 : decode cX5_rowsTo 5 = .ok (.aload_n 0, 1) := by decide +kernel
theorem dX5_rowsTo_6 : decode cX5_rowsTo 6 = .ok (.getfield 19, 3) := by decide +kernel
theorem dX5_rowsTo_9 : decode cX5_rowsTo 9 = .ok (.aload_n 2, 1) := by decide +kernel
theorem dX5_rowsTo_10 : decode cX5_rowsTo 10 = .ok (.invokevirtual 68, 3) := by decide +kernel
theorem dX5_rowsTo_13 : decode cX5_rowsTo 13 = .ok (.iload_n 1, 1) := by decide +kernel
theorem dX5_rowsTo_14 : decode cX5_rowsTo 14 = .ok (.if_icmp .ne 7, 3) := by decide +kernel
theorem dX5_rowsTo_17 : decode cX5_rowsTo 17 = .ok (.iconst 1, 1) := by decide +kernel
theorem dX5_rowsTo_18 : decode cX5_rowsTo 18 = .ok (.goto 4, 3) := by decide +kernel
theorem dX5_rowsTo_21 : decode cX5_rowsTo 21 = .ok (.iconst 0, 1) := by decide +kernel
theorem dX5_rowsTo_22 : decode cX5_rowsTo 22 = .ok (.ireturn, 1) := by decide +kernel
theorem dX5_rowsTo_23 : decode cX5_rowsTo 23 = .ok (.iconst 0, 1) := by decide +kernel
theorem dX5_rowsTo_24 : decode cX5_rowsTo 24 = .ok (.istore 4, 2) := by decide +kernel
theorem dX5_rowsTo_26 : decode cX5_rowsTo 26 = .ok (.aload_n 0, 1) := by decide +kernel
theorem dX5_rowsTo_27 : decode cX5_rowsTo 27 = .ok (.getfield 32, 3) := by decide +kernel
theorem dX5_rowsTo_30 : decode cX5_rowsTo 30 = .ok (.aload_n 2, 1) := by decide +kernel
theorem dX5_rowsTo_31 : decode cX5_rowsTo 31 = .ok (.iload_n 3, 1) := by decide +kernel
theorem dX5_rowsTo_32 : decode cX5_rowsTo 32 = .ok (.iconst 1, 1) := by decide +kernel
theorem dX5_rowsTo_33 : decode cX5_rowsTo 33 = .ok (.isub, 1) := by decide +kernel
theorem dX5_rowsTo_34 : decode cX5_rowsTo 34 = .ok (.invokevirtual 42, 3) := by decide +kernel
theorem dX5_rowsTo_37 : decode cX5_rowsTo 37 = .ok (.iconst 0, 1) := by decide +kernel
theorem dX5_rowsTo_38 : decode cX5_rowsTo 38 = .ok (.istore 5, 2) := by decide +kernel
theorem dX5_rowsTo_40 : decode cX5_rowsTo 40 = .ok (.iload 5, 2) := by decide +kernel
theorem dX5_rowsTo_42 : decode cX5_rowsTo 42 = .ok (.ldc 46, 2) := by decide +kernel
theorem dX5_rowsTo_44 : decode cX5_rowsTo 44 = .ok (.if_icmp .ge 36, 3) := by decide +kernel
theorem dX5_rowsTo_47 : decode cX5_rowsTo 47 = .ok (.aload_n 0, 1) := by decide +kernel
theorem dX5_rowsTo_48 : decode cX5_rowsTo 48 = .ok (.getfield 32, 3) := by decide +kernel
theorem dX5_rowsTo_51 : decode cX5_rowsTo 51 = .ok (.invokevirtual 47, 3) := by decide +kernel
theorem dX5_rowsTo_54 : decode cX5_rowsTo 54 = .ok (.ifCond .eq 26, 3) := by decide +kernel
theorem dX5_rowsTo_57 : decode cX5_rowsTo 57 = .ok (.iload 4, 2) := by decide +kernel
theorem dX5_rowsTo_59 : decode cX5_rowsTo 59 = .ok (.aload_n 0, 1) := by decide +kernel
theorem dX5_rowsTo_60 : decode cX5_rowsTo 60 = .ok (.iload_n 1, 1) := by decide +kernel
theorem dX5_rowsTo_61 : decode cX5_rowsTo 61 = .ok (.aload_n 0, 1) := by decide +kernel
theorem dX5_rowsTo_62 : decode cX5_rowsTo 62 = .ok (.getfield 32, 3) := by decide +kernel
theorem dX5_rowsTo_65 : decode cX5_rowsTo 65 = .ok (.invokevirtual 51, 3) := by decide +kernel
theorem dX5_rowsTo_68 : decode cX5_rowsTo 68 = .ok (.invokevirtual 71, 3) := by decide +kernel
theorem dX5_rowsTo_71 : decode cX5_rowsTo 71 = .ok (.iadd, 1) := by decide +kernel
theorem dX5_rowsTo_72 : decode cX5_rowsTo 72 = .ok (.istore 4, 2) := by decide +kernel
theorem dX5_rowsTo_74 : decode cX5_rowsTo 74 = .ok (.iinc 5 1, 3) := by decide +kernel
theorem dX5_rowsTo_77 : decode cX5_rowsTo 77 = .ok (.goto (-37), 3) := by decide +kernel
theorem dX5_rowsTo_80 : decode cX5_rowsTo 80 = .ok (.iload 4, 2) := by decide +kernel
theorem dX5_rowsTo_82 : decode cX5_rowsTo 82 = .ok (.ireturn, 1) := by decide +kernel
set_option maxRecDepth 20000 in
theorem ggX5_lastMovesTo_X2_openPlaces : GoodIn wsX5_lastMovesTo wsX2_openPlaces := goodIn_r _ [6, 7, 8, 9, 10, 11, 12, 13, 75, 76, 77, 78, 79, 80, 81, 82, 83, 84, 85, 86, 87] (by decide +kernel) (by decide +kernel)
set_option maxRecDepth 20000 in
theorem gX5_lastMovesTo_X2_openPlaces : GoodIn wsX5_lastMovesTo (wsV RX5 68 RX2 yX2_openPlaces wsX2_openPlaces) := goodIn_app (goodIn_of _ (by decide +kernel)) ggX5_lastMovesTo_X2_openPlaces
set_option maxRecDepth 20000 in
theorem ggX5_lastMovesTo_J6_bitCount_0f7a4 : GoodIn wsX5_lastMovesTo wsJ6_bitCount_0f7a4 := goodIn_r _ [17, 18, 19, 20] (by decide +kernel) (by decide +kernel)
set_option maxRecDepth 20000 in
theorem gX5_lastMovesTo_J6_bitCount_0f7a4 : GoodIn wsX5_lastMovesTo (va_wsS RX5 75 yJ6_bitCount_0f7a4 wsJ6_bitCount_0f7a4) := goodIn_app (goodIn_of _ (by decide +kernel)) ggX5_lastMovesTo_J6_bitCount_0f7a4
set_option maxRecDepth 20000 in
theorem ggX5_lastMovesTo_J6_numberOfTrailingZeros_0f7a4 : GoodIn wsX5_lastMovesTo wsJ6_numberOfTrailingZeros_0f7a4 := goodIn_r _ [23, 24] (by decide +kernel) (by decide +kernel)
set_option maxRecDepth 20000 in
theorem gX5_lastMovesTo_J6_numberOfTrailingZeros_0f7a4 : GoodIn wsX5_lastMovesTo (va_wsS RX5 81 yJ6_numberOfTrailingZeros_0f7a4 wsJ6_numberOfTrailingZeros_0f7a4) := goodIn_app (goodIn_of _ (by decide +kernel)) ggX5_lastMovesTo_J6_numberOfTrailingZeros_0f7a4
set_option maxRecDepth 20000 in
theorem ggX5_lastMovesTo_X2_places : GoodIn wsX5_lastMovesTo wsX2_places := goodIn_r _ [28, 7, 75, 76, 77, 78, 79, 80, 81] (by decide +kernel) (by decide +kernel)
set_option maxRecDepth 20000 in
theorem gX5_lastMovesTo_X2_places : GoodIn wsX5_lastMovesTo (wsV RX5 84 RX2 yX2_places wsX2_places) := goodIn_app (goodIn_of _ (by decide +kernel)) ggX5_lastMovesTo_X2_places
set_option maxRecDepth 20000 in
theorem ggX5_lastMovesTo_X2_mayBeMoved : GoodIn wsX5_lastMovesTo wsX2_mayBeMoved := goodIn_r _ [32, 33, 34, 35, 11, 36, 37, 38, 39, 40, 5, 41, 42, 43, 44, 45, 7, 46, 47, 48, 49, 50, 8, 9, 10, 12, 13, 51, 52, 53, 54, 55, 56, 57, 58, 59, 60, 61, 62, 63, 64, 82, 83, 84, 85, 86, 87, 75, 76, 77, 78, 79, 80, 81] (by decide +kernel) (by decide +kernel)
set_option maxRecDepth 20000 in
theorem gX5_lastMovesTo_X2_mayBeMoved : GoodIn wsX5_lastMovesTo (wsV RX5 88 RX2 yX2_mayBeMoved wsX2_mayBeMoved) := goodIn_app (goodIn_of _ (by decide +kernel)) ggX5_lastMovesTo_X2_mayBeMoved
set_option maxRecDepth 20000 in
theorem ggX5_lastMovesTo_X3_whereIs : GoodIn wsX5_lastMovesTo wsX3_whereIs := goodIn_r _ [36, 37, 82, 83, 84, 85, 86, 87] (by decide +kernel) (by decide +kernel)
set_option maxRecDepth 20000 in
theorem gX5_lastMovesTo_X3_whereIs : GoodIn wsX5_lastMovesTo (wsV RX5 92 RX3 yX3_whereIs wsX3_whereIs) := goodIn_app (goodIn_of _ (by decide +kernel)) ggX5_lastMovesTo_X3_whereIs
set_option maxRecDepth 20000 in
theorem ggX5_lastMovesTo_X5_bitOf : GoodIn wsX5_lastMovesTo wsX5_bitOf := goodIn_r _ [69] (by decide +kernel) (by decide +kernel)
set_option maxRecDepth 20000 in
theorem gX5_lastMovesTo_X5_bitOf : GoodIn wsX5_lastMovesTo (va_wsS RX5 95 yX5_bitOf wsX5_bitOf) := goodIn_app (goodIn_of _ (by decide +kernel)) ggX5_lastMovesTo_X5_bitOf
theorem dX5_lastMovesTo_0 : decode cX5_lastMovesTo 0 = .ok (.aload_n 0, 1) := by decide +kernel
theorem dX5_lastMovesTo_1 : decode cX5_lastMovesTo 1 = .ok (.getfield 19, 3) := by decide +kernel
theorem dX5_lastMovesTo_4 : decode cX5_lastMovesTo 4 = .ok (.aload_n 2, 1) := by decide +kernel
theorem dX5_lastMovesTo_5 : decode cX5_lastMovesTo 5 = .ok (.invokevirtual 68, 3) := by decide +kernel
theorem dX5_lastMovesTo_8 : decode cX5_lastMovesTo 8 = .ok (.istore_n 3, 1) := by decide +kernel
theorem dX5_lastMovesTo_9 : decode cX5_lastMovesTo 9 = .ok (.iload_n 3, 1) := by decide +kernel
theorem dX5_lastMovesTo_10 : decode cX5_lastMovesTo 10 = .ok (.iload_n 1, 1) := by decide +kernel
theorem dX5_lastMovesTo_11 : decode cX5_lastMovesTo 11 = .ok (.iconst (-1), 1) := by decide +kernel
theorem dX5_lastMovesTo_12 : decode cX5_lastMovesTo 12 = .ok (.ixor, 1) := by decide +kernel
theorem dX5_lastMovesTo_13 : decode cX5_lastMovesTo 13 = .ok (.iand, 1) := by decide +kernel
theorem dX5_lastMovesTo_14 : decode cX5_lastMovesTo 14 = .ok (.istore 4, 2) := by decide +kernel
theorem dX5_lastMovesTo_16 : decode cX5_lastMovesTo 16 = .ok (.iload 4, 2) := by decide +kernel
theorem dX5_lastMovesTo_18 : decode cX5_lastMovesTo 18 = .ok (.invokestatic 75, 3) := by decide +kernel
theorem dX5_lastMovesTo_21 : decode cX5_lastMovesTo 21 = .ok (.iconst 1, 1) := by decide +kernel
theorem dX5_lastMovesTo_22 : decode cX5_lastMovesTo 22 = .ok (.if_icmp .eq 5, 3) := by decide +kernel
theorem dX5_lastMovesTo_25 : decode cX5_lastMovesTo 25 = .ok (.iconst 0, 1) := by decide +kernel
theorem dX5_lastMovesTo_26 : decode cX5_lastMovesTo 26 = .ok (.ireturn, 1) := by decide +kernel
theorem dX5_lastMovesTo_27 : decode cX5_lastMovesTo 27 = .ok (.iload 4, 2) := by decide +kernel
theorem dX5_lastMovesTo_29 : decode cX5_lastMovesTo 29 = .ok (.invokestatic 81, 3) := by decide +kernel
theorem dX5_lastMovesTo_32 : decode cX5_lastMovesTo 32 = .ok (.istore 5, 2) := by decide +kernel
theorem dX5_lastMovesTo_34 : decode cX5_lastMovesTo 34 = .ok (.iconst 0, 1) := by decide +kernel
theorem dX5_lastMovesTo_35 : decode cX5_lastMovesTo 35 = .ok (.istore 6, 2) := by decide +kernel
theorem dX5_lastMovesTo_37 : decode cX5_lastMovesTo 37 = .ok (.iconst 0, 1) := by decide +kernel
theorem dX5_lastMovesTo_38 : decode cX5_lastMovesTo 38 = .ok (.istore 7, 2) := by decide +kernel
theorem dX5_lastMovesTo_40 : decode cX5_lastMovesTo 40 = .ok (.iload 7, 2) := by decide +kernel
theorem dX5_lastMovesTo_42 : decode cX5_lastMovesTo 42 = .ok (.aload_n 0, 1) := by decide +kernel
theorem dX5_lastMovesTo_43 : decode cX5_lastMovesTo 43 = .ok (.getfield 19, 3) := by decide +kernel
theorem dX5_lastMovesTo_46 : decode cX5_lastMovesTo 46 = .ok (.invokevirtual 84, 3) := by decide +kernel
theorem dX5_lastMovesTo_49 : decode cX5_lastMovesTo 49 = .ok (.if_icmp .ge 45, 3) := by decide +kernel
theorem dX5_lastMovesTo_52 : decode cX5_lastMovesTo 52 = .ok (.aload_n 0, 1) := by decide +kernel
theorem dX5_lastMovesTo_53 : decode cX5_lastMovesTo 53 = .ok (.getfield 19, 3) := by decide +kernel
theorem dX5_lastMovesTo_56 : decode cX5_lastMovesTo 56 = .ok (.iload 7, 2) := by decide +kernel
theorem dX5_lastMovesTo_58 : decode cX5_lastMovesTo 58 = .ok (.iload 5, 2) := by decide +kernel
theorem dX5_lastMovesTo_60 : decode cX5_lastMovesTo 60 = .ok (.aload_n 2, 1) := by decide +kernel
theorem dX5_lastMovesTo_61 : decode cX5_lastMovesTo 61 = .ok (.invokevirtual 88, 3) := by decide +kernel
theorem dX5_lastMovesTo_64 : decode cX5_lastMovesTo 64 = .ok (.ifCond .eq 24, 3) := by decide +kernel
theorem dX5_lastMovesTo_67 : decode cX5_lastMovesTo 67 = .ok (.iload_n 3, 1) := by decide +kernel
theorem dX5_lastMovesTo_68 : decode cX5_lastMovesTo 68 = .ok (.iload 4, 2) := by decide +kernel
theorem dX5_lastMovesTo_70 : decode cX5_lastMovesTo 70 = .ok (.ixor, 1) := by decide +kernel
theorem dX5_lastMovesTo_71 : decode cX5_lastMovesTo 71 = .ok (.aload_n 2, 1) := by decide +kernel
theorem dX5_lastMovesTo_72 : decode cX5_lastMovesTo 72 = .ok (.iload 7, 2) := by decide +kernel
theorem dX5_lastMovesTo_74 : decode cX5_lastMovesTo 74 = .ok (.invokevirtual 92, 3) := by decide +kernel
theorem dX5_lastMovesTo_77 : decode cX5_lastMovesTo 77 = .ok (.invokestatic 95, 3) := by decide +kernel
theorem dX5_lastMovesTo_80 : decode cX5_lastMovesTo 80 = .ok (.ior, 1) := by decide +kernel
theorem dX5_lastMovesTo_81 : decode cX5_lastMovesTo 81 = .ok (.iload_n 1, 1) := by decide +kernel
theorem dX5_lastMovesTo_82 : decode cX5_lastMovesTo 82 = .ok (.if_icmp .ne 6, 3) := by decide +kernel
theorem dX5_lastMovesTo_85 : decode cX5_lastMovesTo 85 = .ok (.iinc 6 1, 3) := by decide +kernel
theorem dX5_lastMovesTo_88 : decode cX5_lastMovesTo 88 = .ok (.iinc 7 1, 3) := by decide +kernel
theorem dX5_lastMovesTo_91 : decode cX5_lastMovesTo 91 = .ok (.goto (-51), 3) := by decide +kernel
theorem dX5_lastMovesTo_94 : decode cX5_lastMovesTo 94 = .ok (.iload 6, 2) := by decide +kernel
theorem dX5_lastMovesTo_96 : decode cX5_lastMovesTo 96 = .ok (.ireturn, 1) := by decide +kernel
theorem dX5_bitOf_0 : decode cX5_bitOf 0 = .ok (.iload_n 0, 1) := by decide +kernel
theorem dX5_bitOf_1 : decode cX5_bitOf 1 = .ok (.ifCond .lt 15, 3) := by decide +kernel
theorem dX5_bitOf_4 : decode cX5_bitOf 4 = .ok (.iload_n 0, 1) := by decide +kernel
theorem dX5_bitOf_5 : decode cX5_bitOf 5 = .ok (.bipush 10, 2) := by decide +kernel
theorem dX5_bitOf_7 : decode cX5_bitOf 7 = .ok (.if_icmp .ge 9, 3) := by decide +kernel
theorem dX5_bitOf_10 : decode cX5_bitOf 10 = .ok (.iconst 1, 1) := by decide +kernel
theorem dX5_bitOf_11 : decode cX5_bitOf 11 = .ok (.iload_n 0, 1) := by decide +kernel
theorem dX5_bitOf_12 : decode cX5_bitOf 12 = .ok (.ishl, 1) := by decide +kernel
theorem dX5_bitOf_13 : decode cX5_bitOf 13 = .ok (.goto 4, 3) := by decide +kernel
theorem dX5_bitOf_16 : decode cX5_bitOf 16 = .ok (.iconst 0, 1) := by decide +kernel
theorem dX5_bitOf_17 : decode cX5_bitOf 17 = .ok (.ireturn, 1) := by decide +kernel
