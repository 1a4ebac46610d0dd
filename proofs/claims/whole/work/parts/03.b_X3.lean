theorem dX3_init_0 : decode cX3_init 0 = .ok (.aload_n 0, 1) := by decide +kernel
theorem dX3_init_1 : decode cX3_init 1 = .ok (.invokespecial 3, 3) := by decide +kernel
theorem dX3_init_4 : decode cX3_init 4 = .ok (.aload_n 0, 1) := by decide +kernel
theorem dX3_init_5 : decode cX3_init 5 = .ok (.bipush 10, 2) := by decide +kernel
theorem dX3_init_7 : decode cX3_init 7 = .ok (.newarray .int, 2) := by decide +kernel
theorem dX3_init_9 : decode cX3_init 9 = .ok (.putfield 9, 3) := by decide +kernel
theorem dX3_init_12 : decode cX3_init 12 = .ok (.aload_n 0, 1) := by decide +kernel
theorem dX3_init_13 : decode cX3_init 13 = .ok (.bipush 10, 2) := by decide +kernel
theorem dX3_init_15 : decode cX3_init 15 = .ok (.newarray .int, 2) := by decide +kernel
theorem dX3_init_17 : decode cX3_init 17 = .ok (.putfield 15, 3) := by decide +kernel
theorem dX3_init_20 : decode cX3_init 20 = .ok (.aload_n 0, 1) := by decide +kernel
theorem dX3_init_21 : decode cX3_init 21 = .ok (.bipush 10, 2) := by decide +kernel
theorem dX3_init_23 : decode cX3_init 23 = .ok (.newarray .int, 2) := by decide +kernel
theorem dX3_init_25 : decode cX3_init 25 = .ok (.putfield 18, 3) := by decide +kernel
theorem dX3_init_28 : decode cX3_init 28 = .ok (.aload_n 0, 1) := by decide +kernel
theorem dX3_init_29 : decode cX3_init 29 = .ok (.bipush 10, 2) := by decide +kernel
theorem dX3_init_31 : decode cX3_init 31 = .ok (.newarray .int, 2) := by decide +kernel
theorem dX3_init_33 : decode cX3_init 33 = .ok (.putfield 21, 3) := by decide +kernel
theorem dX3_init_36 : decode cX3_init 36 = .ok (.aload_n 0, 1) := by decide +kernel
theorem dX3_init_37 : decode cX3_init 37 = .ok (.iconst 0, 1) := by decide +kernel
theorem dX3_init_38 : decode cX3_init 38 = .ok (.putfield 24, 3) := by decide +kernel
theorem dX3_init_41 : decode cX3_init 41 = .ok (.aload_n 0, 1) := by decide +kernel
theorem dX3_init_42 : decode cX3_init 42 = .ok (.iconst 0, 1) := by decide +kernel
theorem dX3_init_43 : decode cX3_init 43 = .ok (.putfield 28, 3) := by decide +kernel
theorem dX3_init_46 : decode cX3_init 46 = .ok (.iconst 0, 1) := by decide +kernel
theorem dX3_init_47 : decode cX3_init 47 = .ok (.istore_n 1, 1) := by decide +kernel
theorem dX3_init_48 : decode cX3_init 48 = .ok (.iload_n 1, 1) := by decide +kernel
theorem dX3_init_49 : decode cX3_init 49 = .ok (.bipush 10, 2) := by decide +kernel
theorem dX3_init_51 : decode cX3_init 51 = .ok (.if_icmp .ge 26, 3) := by decide +kernel
theorem dX3_init_54 : decode cX3_init 54 = .ok (.aload_n 0, 1) := by decide +kernel
theorem dX3_init_55 : decode cX3_init 55 = .ok (.getfield 9, 3) := by decide +kernel
theorem dX3_init_58 : decode cX3_init 58 = .ok (.iload_n 1, 1) := by decide +kernel
theorem dX3_init_59 : decode cX3_init 59 = .ok (.sipush 200, 3) := by decide +kernel
theorem dX3_init_62 : decode cX3_init 62 = .ok (.iastore, 1) := by decide +kernel
theorem dX3_init_63 : decode cX3_init 63 = .ok (.aload_n 0, 1) := by decide +kernel
theorem dX3_init_64 : decode cX3_init 64 = .ok (.getfield 21, 3) := by decide +kernel
theorem dX3_init_67 : decode cX3_init 67 = .ok (.iload_n 1, 1) := by decide +kernel
theorem dX3_init_68 : decode cX3_init 68 = .ok (.bipush (-9), 2) := by decide +kernel
theorem dX3_init_70 : decode cX3_init 70 = .ok (.iastore, 1) := by decide +kernel
theorem dX3_init_71 : decode cX3_init 71 = .ok (.iinc 1 1, 3) := by decide +kernel
theorem dX3_init_74 : decode cX3_init 74 = .ok (.goto (-26), 3) := by decide +kernel
theorem dX3_init_77 : decode cX3_init 77 = .ok (.return_, 1) := by decide +kernel
set_option maxRecDepth 20000 in
theorem ggX3_fill_X2_isPlace : GoodIn wsX3_fill wsX2_isPlace := goodIn_r _ [11, 12, 44, 45, 46, 47, 48, 49, 50] (by decide +kernel) (by decide +kernel)
set_option maxRecDepth 20000 in
theorem gX3_fill_X2_isPlace : GoodIn wsX3_fill (wsV RX3 32 RX2 yX2_isPlace wsX2_isPlace) := goodIn_app (goodIn_of _ (by decide +kernel)) ggX3_fill_X2_isPlace
set_option maxRecDepth 20000 in
theorem ggX3_fill_X7_isFilledPlace : GoodIn wsX3_fill wsX7_isFilledPlace := goodIn_r _ [17, 18, 19, 20, 16, 21, 22, 23, 51, 52] (by decide +kernel) (by decide +kernel)
set_option maxRecDepth 20000 in
theorem gX3_fill_X7_isFilledPlace : GoodIn wsX3_fill (wsV RX3 38 RX7 yX7_isFilledPlace wsX7_isFilledPlace) := goodIn_app (goodIn_of _ (by decide +kernel)) ggX3_fill_X7_isFilledPlace
set_option maxRecDepth 20000 in
theorem ggX3_fill_X2_lengthOf : GoodIn wsX3_fill wsX2_lengthOf := goodIn_r _ [27, 12, 28, 44, 45, 46, 47, 48, 49, 50] (by decide +kernel) (by decide +kernel)
set_option maxRecDepth 20000 in
theorem gX3_fill_X2_lengthOf : GoodIn wsX3_fill (wsV RX3 43 RX2 yX2_lengthOf wsX2_lengthOf) := goodIn_app (goodIn_of _ (by decide +kernel)) ggX3_fill_X2_lengthOf
set_option maxRecDepth 20000 in
theorem ggX3_fill_X7_figureAt : GoodIn wsX3_fill wsX7_figureAt := goodIn_r _ [32, 18, 19, 20, 16, 21, 22, 23, 51, 52] (by decide +kernel) (by decide +kernel)
set_option maxRecDepth 20000 in
theorem gX3_fill_X7_figureAt : GoodIn wsX3_fill (wsV RX3 47 RX7 yX7_figureAt wsX7_figureAt) := goodIn_app (goodIn_of _ (by decide +kernel)) ggX3_fill_X7_figureAt
set_option maxRecDepth 20000 in
theorem ggX3_fill_X7_bytesOfPlace : GoodIn wsX3_fill wsX7_bytesOfPlace := goodIn_r _ [36, 37, 14, 15, 16, 17, 18, 19, 20, 21, 22, 23, 51, 52] (by decide +kernel) (by decide +kernel)
set_option maxRecDepth 20000 in
theorem gX3_fill_X7_bytesOfPlace : GoodIn wsX3_fill (wsV RX3 50 RX7 yX7_bytesOfPlace wsX7_bytesOfPlace) := goodIn_app (goodIn_of _ (by decide +kernel)) ggX3_fill_X7_bytesOfPlace
theorem dX3_fill_0 : decode cX3_fill 0 = .ok (.iconst 4, 1) := by decide +kernel
theorem dX3_fill_1 : decode cX3_fill 1 = .ok (.istore_n 3, 1) := by decide +kernel
theorem dX3_fill_2 : decode cX3_fill 2 = .ok (.iconst 0, 1) := by decide +kernel
theorem dX3_fill_3 : decode cX3_fill 3 = .ok (.istore 4, 2) := by decide +kernel
theorem dX3_fill_5 : decode cX3_fill 5 = .ok (.iload 4, 2) := by decide +kernel
theorem dX3_fill_7 : decode cX3_fill 7 = .ok (.bipush 10, 2) := by decide +kernel
theorem dX3_fill_9 : decode cX3_fill 9 = .ok (.if_icmp .ge 125, 3) := by decide +kernel
theorem dX3_fill_12 : decode cX3_fill 12 = .ok (.aload_n 1, 1) := by decide +kernel
theorem dX3_fill_13 : decode cX3_fill 13 = .ok (.iload 4, 2) := by decide +kernel
theorem dX3_fill_15 : decode cX3_fill 15 = .ok (.invokevirtual 32, 3) := by decide +kernel
theorem dX3_fill_18 : decode cX3_fill 18 = .ok (.ifCond .eq 15, 3) := by decide +kernel
theorem dX3_fill_21 : decode cX3_fill 21 = .ok (.aload_n 2, 1) := by decide +kernel
theorem dX3_fill_22 : decode cX3_fill 22 = .ok (.iload_n 3, 1) := by decide +kernel
theorem dX3_fill_23 : decode cX3_fill 23 = .ok (.invokevirtual 38, 3) := by decide +kernel
theorem dX3_fill_26 : decode cX3_fill 26 = .ok (.ifCond .eq 7, 3) := by decide +kernel
theorem dX3_fill_29 : decode cX3_fill 29 = .ok (.iconst 1, 1) := by decide +kernel
theorem dX3_fill_30 : decode cX3_fill 30 = .ok (.goto 4, 3) := by decide +kernel
theorem dX3_fill_33 : decode cX3_fill 33 = .ok (.iconst 0, 1) := by decide +kernel
theorem dX3_fill_34 : decode cX3_fill 34 = .ok (.istore 5, 2) := by decide +kernel
theorem dX3_fill_36 : decode cX3_fill 36 = .ok (.aload_n 0, 1) := by decide +kernel
theorem dX3_fill_37 : decode cX3_fill 37 = .ok (.getfield 9, 3) := by decide +kernel
theorem dX3_fill_40 : decode cX3_fill 40 = .ok (.iload 4, 2) := by decide +kernel
theorem dX3_fill_42 : decode cX3_fill 42 = .ok (.iload 5, 2) := by decide +kernel
theorem dX3_fill_44 : decode cX3_fill 44 = .ok (.ifCond .eq 8, 3) := by decide +kernel
theorem dX3_fill_47 : decode cX3_fill 47 = .ok (.iload 4, 2) := by decide +kernel
theorem dX3_fill_49 : decode cX3_fill 49 = .ok (.goto 6, 3) := by decide +kernel
theorem dX3_fill_52 : decode cX3_fill 52 = .ok (.sipush 200, 3) := by decide +kernel
theorem dX3_fill_55 : decode cX3_fill 55 = .ok (.iastore, 1) := by decide +kernel
theorem dX3_fill_56 : decode cX3_fill 56 = .ok (.aload_n 0, 1) := by decide +kernel
theorem dX3_fill_57 : decode cX3_fill 57 = .ok (.getfield 21, 3) := by decide +kernel
theorem dX3_fill_60 : decode cX3_fill 60 = .ok (.iload 4, 2) := by decide +kernel
theorem dX3_fill_62 : decode cX3_fill 62 = .ok (.iload 5, 2) := by decide +kernel
theorem dX3_fill_64 : decode cX3_fill 64 = .ok (.ifCond .eq 8, 3) := by decide +kernel
theorem dX3_fill_67 : decode cX3_fill 67 = .ok (.iload 4, 2) := by decide +kernel
theorem dX3_fill_69 : decode cX3_fill 69 = .ok (.goto 5, 3) := by decide +kernel
theorem dX3_fill_72 : decode cX3_fill 72 = .ok (.bipush (-9), 2) := by decide +kernel
theorem dX3_fill_74 : decode cX3_fill 74 = .ok (.iastore, 1) := by decide +kernel
theorem dX3_fill_75 : decode cX3_fill 75 = .ok (.aload_n 0, 1) := by decide +kernel
theorem dX3_fill_76 : decode cX3_fill 76 = .ok (.getfield 15, 3) := by decide +kernel
theorem dX3_fill_79 : decode cX3_fill 79 = .ok (.iload 4, 2) := by decide +kernel
theorem dX3_fill_81 : decode cX3_fill 81 = .ok (.iload 5, 2) := by decide +kernel
theorem dX3_fill_83 : decode cX3_fill 83 = .ok (.ifCond .eq 12, 3) := by decide +kernel
theorem dX3_fill_86 : decode cX3_fill 86 = .ok (.aload_n 1, 1) := by decide +kernel
theorem dX3_fill_87 : decode cX3_fill 87 = .ok (.iload 4, 2) := by decide +kernel
theorem dX3_fill_89 : decode cX3_fill 89 = .ok (.invokevirtual 43, 3) := by decide +kernel
theorem dX3_fill_92 : decode cX3_fill 92 = .ok (.goto 4, 3) := by decide +kernel
theorem dX3_fill_95 : decode cX3_fill 95 = .ok (.iconst 0, 1) := by decide +kernel
theorem dX3_fill_96 : decode cX3_fill 96 = .ok (.iastore, 1) := by decide +kernel
theorem dX3_fill_97 : decode cX3_fill 97 = .ok (.aload_n 0, 1) := by decide +kernel
theorem dX3_fill_98 : decode cX3_fill 98 = .ok (.getfield 18, 3) := by decide +kernel
theorem dX3_fill_101 : decode cX3_fill 101 = .ok (.iload 4, 2) := by decide +kernel
theorem dX3_fill_103 : decode cX3_fill 103 = .ok (.iload 5, 2) := by decide +kernel
theorem dX3_fill_105 : decode cX3_fill 105 = .ok (.ifCond .eq 13, 3) := by decide +kernel
theorem dX3_fill_108 : decode cX3_fill 108 = .ok (.aload_n 2, 1) := by decide +kernel
theorem dX3_fill_109 : decode cX3_fill 109 = .ok (.iload_n 3, 1) := by decide +kernel
theorem dX3_fill_110 : decode cX3_fill 110 = .ok (.iconst 5, 1) := by decide +kernel
theorem dX3_fill_111 : decode cX3_fill 111 = .ok (.iadd, 1) := by decide +kernel
theorem dX3_fill_112 : decode cX3_fill 112 = .ok (.invokevirtual 47, 3) := by decide +kernel
theorem dX3_fill_115 : decode cX3_fill 115 = .ok (.goto 4, 3) := by decide +kernel
theorem dX3_fill_118 : decode cX3_fill 118 = .ok (.iconst 0, 1) := by decide +kernel
theorem dX3_fill_119 : decode cX3_fill 119 = .ok (.iastore, 1) := by decide +kernel
theorem dX3_fill_120 : decode cX3_fill 120 = .ok (.iload_n 3, 1) := by decide +kernel
theorem dX3_fill_121 : decode cX3_fill 121 = .ok (.aload_n 2, 1) := by decide +kernel
theorem dX3_fill_122 : decode cX3_fill 122 = .ok (.iload_n 3, 1) := by decide +kernel
theorem dX3_fill_123 : decode cX3_fill 123 = .ok (.invokevirtual 50, 3) := by decide +kernel
theorem dX3_fill_126 : decode cX3_fill 126 = .ok (.iadd, 1) := by decide +kernel
theorem dX3_fill_127 : decode cX3_fill 127 = .ok (.istore_n 3, 1) := by decide +kernel
theorem dX3_fill_128 : decode cX3_fill 128 = .ok (.iinc 4 1, 3) := by decide +kernel
theorem dX3_fill_131 : decode cX3_fill 131 = .ok (.goto (-126), 3) := by decide +kernel
theorem dX3_fill_134 : decode cX3_fill 134 = .ok (.aload_n 0, 1) := by decide +kernel
theorem dX3_fill_135 : decode cX3_fill 135 = .ok (.iconst 0, 1) := by decide +kernel
theorem dX3_fill_136 : decode cX3_fill 136 = .ok (.putfield 24, 3) := by decide +kernel
theorem dX3_fill_139 : decode cX3_fill 139 = .ok (.aload_n 0, 1) := by decide +kernel
theorem dX3_fill_140 : decode cX3_fill 140 = .ok (.iconst 0, 1) := by decide +kernel
theorem dX3_fill_141 : decode cX3_fill 141 = .ok (.putfield 28, 3) := by decide +kernel
theorem dX3_fill_144 : decode cX3_fill 144 = .ok (.return_, 1) := by decide +kernel
theorem dX3_copyFrom_0 : decode cX3_copyFrom 0 = .ok (.aload_n 1, 1) := by decide +kernel
theorem dX3_copyFrom_1 : decode cX3_copyFrom 1 = .ok (.getfield 9, 3) := by decide +kernel
theorem dX3_copyFrom_4 : decode cX3_copyFrom 4 = .ok (.iconst 0, 1) := by decide +kernel
theorem dX3_copyFrom_5 : decode cX3_copyFrom 5 = .ok (.aload_n 0, 1) := by decide +kernel
theorem dX3_copyFrom_6 : decode cX3_copyFrom 6 = .ok (.getfield 9, 3) := by decide +kernel
theorem dX3_copyFrom_9 : decode cX3_copyFrom 9 = .ok (.iconst 0, 1) := by decide +kernel
theorem dX3_copyFrom_10 : decode cX3_copyFrom 10 = .ok (.bipush 10, 2) := by decide +kernel
theorem dX3_copyFrom_12 : decode cX3_copyFrom 12 = .ok (.invokestatic 53, 3) := by decide +kernel
theorem dX3_copyFrom_15 : decode cX3_copyFrom 15 = .ok (.aload_n 1, 1) := by decide +kernel
theorem dX3_copyFrom_16 : decode cX3_copyFrom 16 = .ok (.getfield 15, 3) := by decide +kernel
theorem dX3_copyFrom_19 : decode cX3_copyFrom 19 = .ok (.iconst 0, 1) := by decide +kernel
theorem dX3_copyFrom_20 : decode cX3_copyFrom 20 = .ok (.aload_n 0, 1) := by decide +kernel
theorem dX3_copyFrom_21 : decode cX3_copyFrom 21 = .ok (.getfield 15, 3) := by decide +kernel
theorem dX3_copyFrom_24 : decode cX3_copyFrom 24 = .ok (.iconst 0, 1) := by decide +kernel
theorem dX3_copyFrom_25 : decode cX3_copyFrom 25 = .ok (.bipush 10, 2) := by decide +kernel
theorem dX3_copyFrom_27 : decode cX3_copyFrom 27 = .ok (.invokestatic 53, 3) := by decide +kernel
theorem dX3_copyFrom_30 : decode cX3_copyFrom 30 = .ok (.aload_n 1, 1) := by decide +kernel
theorem dX3_copyFrom_31 : decode cX3_copyFrom 31 = .ok (.getfield 18, 3) := by decide +kernel
theorem dX3_copyFrom_34 : decode cX3_copyFrom 34 = .ok (.iconst 0, 1) := by decide +kernel
theorem dX3_copyFrom_35 : decode cX3_copyFrom 35 = .ok (.aload_n 0, 1) := by decide +kernel
theorem dX3_copyFrom_36 : decode cX3_copyFrom 36 = .ok (.getfield 18, 3) := by decide +kernel
theorem dX3_copyFrom_39 : decode cX3_copyFrom 39 = .ok (.iconst 0, 1) := by decide +kernel
theorem dX3_copyFrom_40 : decode cX3_copyFrom 40 = .ok (.bipush 10, 2) := by decide +kernel
theorem dX3_copyFrom_42 : decode cX3_copyFrom 42 = .ok (.invokestatic 53, 3) := by decide +kernel
theorem dX3_copyFrom_45 : decode cX3_copyFrom 45 = .ok (.aload_n 1, 1) := by decide +kernel
theorem dX3_copyFrom_46 : decode cX3_copyFrom 46 = .ok (.getfield 21, 3) := by decide +kernel
theorem dX3_copyFrom_49 : decode cX3_copyFrom 49 = .ok (.iconst 0, 1) := by decide +kernel
theorem dX3_copyFrom_50 : decode cX3_copyFrom 50 = .ok (.aload_n 0, 1) := by decide +kernel
theorem dX3_copyFrom_51 : decode cX3_copyFrom 51 = .ok (.getfield 21, 3) := by decide +kernel
theorem dX3_copyFrom_54 : decode cX3_copyFrom 54 = .ok (.iconst 0, 1) := by decide +kernel
theorem dX3_copyFrom_55 : decode cX3_copyFrom 55 = .ok (.bipush 10, 2) := by decide +kernel
theorem dX3_copyFrom_57 : decode cX3_copyFrom 57 = .ok (.invokestatic 53, 3) := by decide +kernel
theorem dX3_copyFrom_60 : decode cX3_copyFrom 60 = .ok (.aload_n 0, 1) := by decide +kernel
theorem dX3_copyFrom_61 : decode cX3_copyFrom 61 = .ok (.aload_n 1, 1) := by decide +kernel
theorem dX3_copyFrom_62 : decode cX3_copyFrom 62 = .ok (.getfield 24, 3) := by decide +kernel
theorem dX3_copyFrom_65 : decode cX3_copyFrom 65 = .ok (.putfield 24, 3) := by decide +kernel
theorem dX3_copyFrom_68 : decode cX3_copyFrom 68 = .ok (.aload_n 0, 1) := by decide +kernel
theorem dX3_copyFrom_69 : decode cX3_copyFrom 69 = .ok (.aload_n 1, 1) := by decide +kernel
theorem dX3_copyFrom_70 : decode cX3_copyFrom 70 = .ok (.getfield 28, 3) := by decide +kernel
theorem dX3_copyFrom_73 : decode cX3_copyFrom 73 = .ok (.putfield 28, 3) := by decide +kernel
theorem dX3_copyFrom_76 : decode cX3_copyFrom 76 = .ok (.return_, 1) := by decide +kernel
theorem dX3_whereIs_0 : decode cX3_whereIs 0 = .ok (.iload_n 1, 1) := by decide +kernel
theorem dX3_whereIs_1 : decode cX3_whereIs 1 = .ok (.ifCond .lt 21, 3) := by decide +kernel
theorem dX3_whereIs_4 : decode cX3_whereIs 4 = .ok (.iload_n 1, 1) := by decide +kernel
theorem dX3_whereIs_5 : decode cX3_whereIs 5 = .ok (.aload_n 0, 1) := by decide +kernel
theorem dX3_whereIs_6 : decode cX3_whereIs 6 = .ok (.getfield 9, 3) := by decide +kernel
theorem dX3_whereIs_9 : decode cX3_whereIs 9 = .ok (.arraylength, 1) := by decide +kernel
theorem dX3_whereIs_10 : decode cX3_whereIs 10 = .ok (.if_icmp .ge 12, 3) := by decide +kernel
theorem dX3_whereIs_13 : decode cX3_whereIs 13 = .ok (.aload_n 0, 1) := by decide +kernel
theorem dX3_whereIs_14 : decode cX3_whereIs 14 = .ok (.getfield 9, 3) := by decide +kernel
theorem dX3_whereIs_17 : decode cX3_whereIs 17 = .ok (.iload_n 1, 1) := by decide +kernel
theorem dX3_whereIs_18 : decode cX3_whereIs 18 = .ok (.iaload, 1) := by decide +kernel
theorem dX3_whereIs_19 : decode cX3_whereIs 19 = .ok (.goto 6, 3) := by decide +kernel
theorem dX3_whereIs_22 : decode cX3_whereIs 22 = .ok (.sipush 200, 3) := by decide +kernel
theorem dX3_whereIs_25 : decode cX3_whereIs 25 = .ok (.ireturn, 1) := by decide +kernel
theorem dX3_lengthOf_0 : decode cX3_lengthOf 0 = .ok (.iload_n 1, 1) := by decide +kernel
theorem dX3_lengthOf_1 : decode cX3_lengthOf 1 = .ok (.ifCond .lt 21, 3) := by decide +kernel
theorem dX3_lengthOf_4 : decode cX3_lengthOf 4 = .ok (.iload_n 1, 1) := by decide +kernel
theorem dX3_lengthOf_5 : decode cX3_lengthOf 5 = .ok (.aload_n 0, 1) := by decide +kernel
theorem dX3_lengthOf_6 : decode cX3_lengthOf 6 = .ok (.getfield 15, 3) := by decide +kernel
theorem dX3_lengthOf_9 : decode cX3_lengthOf 9 = .ok (.arraylength, 1) := by decide +kernel
theorem dX3_lengthOf_10 : decode cX3_lengthOf 10 = .ok (.if_icmp .ge 12, 3) := by decide +kernel
theorem dX3_lengthOf_13 : decode cX3_lengthOf 13 = .ok (.aload_n 0, 1) := by decide +kernel
theorem dX3_lengthOf_14 : decode cX3_lengthOf 14 = .ok (.getfield 15, 3) := by decide +kernel
theorem dX3_lengthOf_17 : decode cX3_lengthOf 17 = .ok (.iload_n 1, 1) := by decide +kernel
theorem dX3_lengthOf_18 : decode cX3_lengthOf 18 = .ok (.iaload, 1) := by decide +kernel
theorem dX3_lengthOf_19 : decode cX3_lengthOf 19 = .ok (.goto 4, 3) := by decide +kernel
theorem dX3_lengthOf_22 : decode cX3_lengthOf 22 = .ok (.iconst 0, 1) := by decide +kernel
theorem dX3_lengthOf_23 : decode cX3_lengthOf 23 = .ok (.ireturn, 1) := by decide +kernel
theorem dX3_wormsIn_0 : decode cX3_wormsIn 0 = .ok (.iload_n 1, 1) := by decide +kernel
theorem dX3_wormsIn_1 : decode cX3_wormsIn 1 = .ok (.ifCond .lt 21, 3) := by decide +kernel
theorem dX3_wormsIn_4 : decode cX3_wormsIn 4 = .ok (.iload_n 1, 1) := by decide +kernel
theorem dX3_wormsIn_5 : decode cX3_wormsIn 5 = .ok (.aload_n 0, 1) := by decide +kernel
theorem dX3_wormsIn_6 : decode cX3_wormsIn 6 = .ok (.getfield 18, 3) := by decide +kernel
theorem dX3_wormsIn_9 : decode cX3_wormsIn 9 = .ok (.arraylength, 1) := by decide +kernel
theorem dX3_wormsIn_10 : decode cX3_wormsIn 10 = .ok (.if_icmp .ge 12, 3) := by decide +kernel
theorem dX3_wormsIn_13 : decode cX3_wormsIn 13 = .ok (.aload_n 0, 1) := by decide +kernel
theorem dX3_wormsIn_14 : decode cX3_wormsIn 14 = .ok (.getfield 18, 3) := by decide +kernel
theorem dX3_wormsIn_17 : decode cX3_wormsIn 17 = .ok (.iload_n 1, 1) := by decide +kernel
theorem dX3_wormsIn_18 : decode cX3_wormsIn 18 = .ok (.iaload, 1) := by decide +kernel
theorem dX3_wormsIn_19 : decode cX3_wormsIn 19 = .ok (.goto 4, 3) := by decide +kernel
theorem dX3_wormsIn_22 : decode cX3_wormsIn 22 = .ok (.iconst 0, 1) := by decide +kernel
theorem dX3_wormsIn_23 : decode cX3_wormsIn 23 = .ok (.ireturn, 1) := by decide +kernel
theorem dX3_timberIn_0 : decode cX3_timberIn 0 = .ok (.iload_n 1, 1) := by decide +kernel
theorem dX3_timberIn_1 : decode cX3_timberIn 1 = .ok (.ifCond .lt 21, 3) := by decide +kernel
theorem dX3_timberIn_4 : decode cX3_timberIn 4 = .ok (.iload_n 1, 1) := by decide +kernel
theorem dX3_timberIn_5 : decode cX3_timberIn 5 = .ok (.aload_n 0, 1) := by decide +kernel
theorem dX3_timberIn_6 : decode cX3_timberIn 6 = .ok (.getfield 21, 3) := by decide +kernel
theorem dX3_timberIn_9 : decode cX3_timberIn 9 = .ok (.arraylength, 1) := by decide +kernel
theorem dX3_timberIn_10 : decode cX3_timberIn 10 = .ok (.if_icmp .ge 12, 3) := by decide +kernel
theorem dX3_timberIn_13 : decode cX3_timberIn 13 = .ok (.aload_n 0, 1) := by decide +kernel
theorem dX3_timberIn_14 : decode cX3_timberIn 14 = .ok (.getfield 21, 3) := by decide +kernel
theorem dX3_timberIn_17 : decode cX3_timberIn 17 = .ok (.iload_n 1, 1) := by decide +kernel
theorem dX3_timberIn_18 : decode cX3_timberIn 18 = .ok (.iaload, 1) := by decide +kernel
theorem dX3_timberIn_19 : decode cX3_timberIn 19 = .ok (.goto 5, 3) := by decide +kernel
theorem dX3_timberIn_22 : decode cX3_timberIn 22 = .ok (.bipush (-9), 2) := by decide +kernel
theorem dX3_timberIn_24 : decode cX3_timberIn 24 = .ok (.ireturn, 1) := by decide +kernel
theorem dX3_isOpen_0 : decode cX3_isOpen 0 = .ok (.iload_n 1, 1) := by decide +kernel
theorem dX3_isOpen_1 : decode cX3_isOpen 1 = .ok (.ifCond .lt 23, 3) := by decide +kernel
theorem dX3_isOpen_4 : decode cX3_isOpen 4 = .ok (.iload_n 1, 1) := by decide +kernel
theorem dX3_isOpen_5 : decode cX3_isOpen 5 = .ok (.aload_n 0, 1) := by decide +kernel
theorem dX3_isOpen_6 : decode cX3_isOpen 6 = .ok (.getfield 21, 3) := by decide +kernel
theorem dX3_isOpen_9 : decode cX3_isOpen 9 = .ok (.arraylength, 1) := by decide +kernel
theorem dX3_isOpen_10 : decode cX3_isOpen 10 = .ok (.if_icmp .ge 14, 3) := by decide +kernel
theorem dX3_isOpen_13 : decode cX3_isOpen 13 = .ok (.aload_n 0, 1) := by decide +kernel
theorem dX3_isOpen_14 : decode cX3_isOpen 14 = .ok (.getfield 21, 3) := by decide +kernel
theorem dX3_isOpen_17 : decode cX3_isOpen 17 = .ok (.iload_n 1, 1) := by decide +kernel
theorem dX3_isOpen_18 : decode cX3_isOpen 18 = .ok (.iaload, 1) := by decide +kernel
theorem dX3_isOpen_19 : decode cX3_isOpen 19 = .ok (.bipush (-9), 2) := by decide +kernel
theorem dX3_isOpen_21 : decode cX3_isOpen 21 = .ok (.if_icmp .ne 7, 3) := by decide +kernel
theorem dX3_isOpen_24 : decode cX3_isOpen 24 = .ok (.iconst 1, 1) := by decide +kernel
theorem dX3_isOpen_25 : decode cX3_isOpen 25 = .ok (.goto 4, 3) := by decide +kernel
theorem dX3_isOpen_28 : decode cX3_isOpen 28 = .ok (.iconst 0, 1) := by decide +kernel
theorem dX3_isOpen_29 : decode cX3_isOpen 29 = .ok (.ireturn, 1) := by decide +kernel
theorem dX3_waterInside_0 : decode cX3_waterInside 0 = .ok (.aload_n 0, 1) := by decide +kernel
theorem dX3_waterInside_1 : decode cX3_waterInside 1 = .ok (.getfield 24, 3) := by decide +kernel
theorem dX3_waterInside_4 : decode cX3_waterInside 4 = .ok (.ireturn, 1) := by decide +kernel
theorem dX3_isSunk_0 : decode cX3_isSunk 0 = .ok (.aload_n 0, 1) := by decide +kernel
theorem dX3_isSunk_1 : decode cX3_isSunk 1 = .ok (.getfield 28, 3) := by decide +kernel
theorem dX3_isSunk_4 : decode cX3_isSunk 4 = .ok (.ireturn, 1) := by decide +kernel
theorem dX3_bringTo_0 : decode cX3_bringTo 0 = .ok (.iload_n 1, 1) := by decide +kernel
theorem dX3_bringTo_1 : decode cX3_bringTo 1 = .ok (.ifCond .lt 12, 3) := by decide +kernel
theorem dX3_bringTo_4 : decode cX3_bringTo 4 = .ok (.iload_n 1, 1) := by decide +kernel
theorem dX3_bringTo_5 : decode cX3_bringTo 5 = .ok (.aload_n 0, 1) := by decide +kernel
theorem dX3_bringTo_6 : decode cX3_bringTo 6 = .ok (.getfield 9, 3) := by decide +kernel
theorem dX3_bringTo_9 : decode cX3_bringTo 9 = .ok (.arraylength, 1) := by decide +kernel
theorem dX3_bringTo_10 : decode cX3_bringTo 10 = .ok (.if_icmp .lt 4, 3) := by decide +kernel
theorem dX3_bringTo_13 : decode cX3_bringTo 13 = .ok (.return_, 1) := by decide +kernel
theorem dX3_bringTo_14 : decode cX3_bringTo 14 = .ok (.aload_n 0, 1) := by decide +kernel
theorem dX3_bringTo_15 : decode cX3_bringTo 15 = .ok (.getfield 9, 3) := by decide +kernel
theorem dX3_bringTo_18 : decode cX3_bringTo 18 = .ok (.iload_n 1, 1) := by decide +kernel
theorem dX3_bringTo_19 : decode cX3_bringTo 19 = .ok (.iaload, 1) := by decide +kernel
theorem dX3_bringTo_20 : decode cX3_bringTo 20 = .ok (.istore_n 3, 1) := by decide +kernel
theorem dX3_bringTo_21 : decode cX3_bringTo 21 = .ok (.iload_n 3, 1) := by decide +kernel
theorem dX3_bringTo_22 : decode cX3_bringTo 22 = .ok (.ifCond .lt 20, 3) := by decide +kernel
theorem dX3_bringTo_25 : decode cX3_bringTo 25 = .ok (.iload_n 3, 1) := by decide +kernel
theorem dX3_bringTo_26 : decode cX3_bringTo 26 = .ok (.aload_n 0, 1) := by decide +kernel
theorem dX3_bringTo_27 : decode cX3_bringTo 27 = .ok (.getfield 21, 3) := by decide +kernel
theorem dX3_bringTo_30 : decode cX3_bringTo 30 = .ok (.arraylength, 1) := by decide +kernel
theorem dX3_bringTo_31 : decode cX3_bringTo 31 = .ok (.if_icmp .ge 11, 3) := by decide +kernel
theorem dX3_bringTo_34 : decode cX3_bringTo 34 = .ok (.aload_n 0, 1) := by decide +kernel
theorem dX3_bringTo_35 : decode cX3_bringTo 35 = .ok (.getfield 21, 3) := by decide +kernel
theorem dX3_bringTo_38 : decode cX3_bringTo 38 = .ok (.iload_n 3, 1) := by decide +kernel
theorem dX3_bringTo_39 : decode cX3_bringTo 39 = .ok (.bipush (-9), 2) := by decide +kernel
theorem dX3_bringTo_41 : decode cX3_bringTo 41 = .ok (.iastore, 1) := by decide +kernel
theorem dX3_bringTo_42 : decode cX3_bringTo 42 = .ok (.aload_n 0, 1) := by decide +kernel
theorem dX3_bringTo_43 : decode cX3_bringTo 43 = .ok (.getfield 9, 3) := by decide +kernel
theorem dX3_bringTo_46 : decode cX3_bringTo 46 = .ok (.iload_n 1, 1) := by decide +kernel
theorem dX3_bringTo_47 : decode cX3_bringTo 47 = .ok (.iload_n 2, 1) := by decide +kernel
theorem dX3_bringTo_48 : decode cX3_bringTo 48 = .ok (.iastore, 1) := by decide +kernel
theorem dX3_bringTo_49 : decode cX3_bringTo 49 = .ok (.iload_n 2, 1) := by decide +kernel
theorem dX3_bringTo_50 : decode cX3_bringTo 50 = .ok (.ifCond .lt 19, 3) := by decide +kernel
theorem dX3_bringTo_53 : decode cX3_bringTo 53 = .ok (.iload_n 2, 1) := by decide +kernel
theorem dX3_bringTo_54 : decode cX3_bringTo 54 = .ok (.aload_n 0, 1) := by decide +kernel
theorem dX3_bringTo_55 : decode cX3_bringTo 55 = .ok (.getfield 21, 3) := by decide +kernel
theorem dX3_bringTo_58 : decode cX3_bringTo 58 = .ok (.arraylength, 1) := by decide +kernel
theorem dX3_bringTo_59 : decode cX3_bringTo 59 = .ok (.if_icmp .ge 10, 3) := by decide +kernel
theorem dX3_bringTo_62 : decode cX3_bringTo 62 = .ok (.aload_n 0, 1) := by decide +kernel
theorem dX3_bringTo_63 : decode cX3_bringTo 63 = .ok (.getfield 21, 3) := by decide +kernel
theorem dX3_bringTo_66 : decode cX3_bringTo 66 = .ok (.iload_n 2, 1) := by decide +kernel
theorem dX3_bringTo_67 : decode cX3_bringTo 67 = .ok (.iload_n 1, 1) := by decide +kernel
theorem dX3_bringTo_68 : decode cX3_bringTo 68 = .ok (.iastore, 1) := by decide +kernel
theorem dX3_bringTo_69 : decode cX3_bringTo 69 = .ok (.return_, 1) := by decide +kernel
theorem dX3_cutTo_0 : decode cX3_cutTo 0 = .ok (.iload_n 1, 1) := by decide +kernel
theorem dX3_cutTo_1 : decode cX3_cutTo 1 = .ok (.ifCond .lt 19, 3) := by decide +kernel
theorem dX3_cutTo_4 : decode cX3_cutTo 4 = .ok (.iload_n 1, 1) := by decide +kernel
theorem dX3_cutTo_5 : decode cX3_cutTo 5 = .ok (.aload_n 0, 1) := by decide +kernel
theorem dX3_cutTo_6 : decode cX3_cutTo 6 = .ok (.getfield 15, 3) := by decide +kernel
theorem dX3_cutTo_9 : decode cX3_cutTo 9 = .ok (.arraylength, 1) := by decide +kernel
theorem dX3_cutTo_10 : decode cX3_cutTo 10 = .ok (.if_icmp .ge 10, 3) := by decide +kernel
theorem dX3_cutTo_13 : decode cX3_cutTo 13 = .ok (.aload_n 0, 1) := by decide +kernel
theorem dX3_cutTo_14 : decode cX3_cutTo 14 = .ok (.getfield 15, 3) := by decide +kernel
theorem dX3_cutTo_17 : decode cX3_cutTo 17 = .ok (.iload_n 1, 1) := by decide +kernel
theorem dX3_cutTo_18 : decode cX3_cutTo 18 = .ok (.iload_n 2, 1) := by decide +kernel
theorem dX3_cutTo_19 : decode cX3_cutTo 19 = .ok (.iastore, 1) := by decide +kernel
theorem dX3_cutTo_20 : decode cX3_cutTo 20 = .ok (.return_, 1) := by decide +kernel
theorem dX3_addWorm_0 : decode cX3_addWorm 0 = .ok (.iload_n 1, 1) := by decide +kernel
theorem dX3_addWorm_1 : decode cX3_addWorm 1 = .ok (.ifCond .lt 22, 3) := by decide +kernel
theorem dX3_addWorm_4 : decode cX3_addWorm 4 = .ok (.iload_n 1, 1) := by decide +kernel
theorem dX3_addWorm_5 : decode cX3_addWorm 5 = .ok (.aload_n 0, 1) := by decide +kernel
theorem dX3_addWorm_6 : decode cX3_addWorm 6 = .ok (.getfield 18, 3) := by decide +kernel
theorem dX3_addWorm_9 : decode cX3_addWorm 9 = .ok (.arraylength, 1) := by decide +kernel
theorem dX3_addWorm_10 : decode cX3_addWorm 10 = .ok (.if_icmp .ge 13, 3) := by decide +kernel
theorem dX3_addWorm_13 : decode cX3_addWorm 13 = .ok (.aload_n 0, 1) := by decide +kernel
theorem dX3_addWorm_14 : decode cX3_addWorm 14 = .ok (.getfield 18, 3) := by decide +kernel
theorem dX3_addWorm_17 : decode cX3_addWorm 17 = .ok (.iload_n 1, 1) := by decide +kernel
theorem dX3_addWorm_18 : decode cX3_addWorm 18 = .ok (.dup2, 1) := by decide +kernel
theorem dX3_addWorm_19 : decode cX3_addWorm 19 = .ok (.iaload, 1) := by decide +kernel
theorem dX3_addWorm_20 : decode cX3_addWorm 20 = .ok (.iconst 1, 1) := by decide +kernel
theorem dX3_addWorm_21 : decode cX3_addWorm 21 = .ok (.iadd, 1) := by decide +kernel
theorem dX3_addWorm_22 : decode cX3_addWorm 22 = .ok (.iastore, 1) := by decide +kernel
theorem dX3_addWorm_23 : decode cX3_addWorm 23 = .ok (.return_, 1) := by decide +kernel
theorem dX3_setWater_0 : decode cX3_setWater 0 = .ok (.aload_n 0, 1) := by decide +kernel
theorem dX3_setWater_1 : decode cX3_setWater 1 = .ok (.iload_n 1, 1) := by decide +kernel
theorem dX3_setWater_2 : decode cX3_setWater 2 = .ok (.putfield 24, 3) := by decide +kernel
theorem dX3_setWater_5 : decode cX3_setWater 5 = .ok (.return_, 1) := by decide +kernel
theorem dX3_sink_0 : decode cX3_sink 0 = .ok (.aload_n 0, 1) := by decide +kernel
theorem dX3_sink_1 : decode cX3_sink 1 = .ok (.iconst 1, 1) := by decide +kernel
theorem dX3_sink_2 : decode cX3_sink 2 = .ok (.putfield 28, 3) := by decide +kernel
theorem dX3_sink_5 : decode cX3_sink 5 = .ok (.return_, 1) := by decide +kernel
