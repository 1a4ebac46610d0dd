theorem dX2_init_0 : decode cX2_init 0 = .ok (.aload_n 0, 1) := by decide +kernel
theorem dX2_init_1 : decode cX2_init 1 = .ok (.invokespecial 3, 3) := by decide +kernel
theorem dX2_init_4 : decode cX2_init 4 = .ok (.aload_n 0, 1) := by decide +kernel
theorem dX2_init_5 : decode cX2_init 5 = .ok (.bipush 10, 2) := by decide +kernel
theorem dX2_init_7 : decode cX2_init 7 = .ok (.newarray .int, 2) := by decide +kernel
theorem dX2_init_9 : decode cX2_init 9 = .ok (.putfield 9, 3) := by decide +kernel
theorem dX2_init_12 : decode cX2_init 12 = .ok (.aload_n 0, 1) := by decide +kernel
theorem dX2_init_13 : decode cX2_init 13 = .ok (.bipush 10, 2) := by decide +kernel
theorem dX2_init_15 : decode cX2_init 15 = .ok (.newarray .int, 2) := by decide +kernel
theorem dX2_init_17 : decode cX2_init 17 = .ok (.putfield 15, 3) := by decide +kernel
theorem dX2_init_20 : decode cX2_init 20 = .ok (.aload_n 0, 1) := by decide +kernel
theorem dX2_init_21 : decode cX2_init 21 = .ok (.bipush 10, 2) := by decide +kernel
theorem dX2_init_23 : decode cX2_init 23 = .ok (.newarray .int, 2) := by decide +kernel
theorem dX2_init_25 : decode cX2_init 25 = .ok (.putfield 18, 3) := by decide +kernel
theorem dX2_init_28 : decode cX2_init 28 = .ok (.aload_n 0, 1) := by decide +kernel
theorem dX2_init_29 : decode cX2_init 29 = .ok (.bipush 10, 2) := by decide +kernel
theorem dX2_init_31 : decode cX2_init 31 = .ok (.newarray .int, 2) := by decide +kernel
theorem dX2_init_33 : decode cX2_init 33 = .ok (.putfield 21, 3) := by decide +kernel
theorem dX2_init_36 : decode cX2_init 36 = .ok (.aload_n 0, 1) := by decide +kernel
theorem dX2_init_37 : decode cX2_init 37 = .ok (.iconst 0, 1) := by decide +kernel
theorem dX2_init_38 : decode cX2_init 38 = .ok (.putfield 24, 3) := by decide +kernel
theorem dX2_init_41 : decode cX2_init 41 = .ok (.aload_n 0, 1) := by decide +kernel
theorem dX2_init_42 : decode cX2_init 42 = .ok (.iconst 0, 1) := by decide +kernel
theorem dX2_init_43 : decode cX2_init 43 = .ok (.putfield 28, 3) := by decide +kernel
theorem dX2_init_46 : decode cX2_init 46 = .ok (.aload_n 0, 1) := by decide +kernel
theorem dX2_init_47 : decode cX2_init 47 = .ok (.iconst 1, 1) := by decide +kernel
theorem dX2_init_48 : decode cX2_init 48 = .ok (.putfield 31, 3) := by decide +kernel
theorem dX2_init_51 : decode cX2_init 51 = .ok (.return_, 1) := by decide +kernel
set_option maxRecDepth 20000 in
theorem ggX2_build_X7_figureAt : GoodIn wsX2_build wsX7_figureAt := goodIn_r _ [12, 13, 14, 15, 11, 16, 17, 18, 40, 41] (by decide +kernel) (by decide +kernel)
set_option maxRecDepth 20000 in
theorem gX2_build_X7_figureAt : GoodIn wsX2_build (wsV RX2 34 RX7 yX7_figureAt wsX7_figureAt) := goodIn_app (goodIn_of _ (by decide +kernel)) ggX2_build_X7_figureAt
set_option maxRecDepth 20000 in
theorem ggX2_build_X7_size : GoodIn wsX2_build wsX7_size := goodIn_r _ [22, 17, 40, 41] (by decide +kernel) (by decide +kernel)
set_option maxRecDepth 20000 in
theorem gX2_build_X7_size : GoodIn wsX2_build (wsV RX2 40 RX7 yX7_size wsX7_size) := goodIn_app (goodIn_of _ (by decide +kernel)) ggX2_build_X7_size
set_option maxRecDepth 20000 in
theorem ggX2_build_X7_byteAt : GoodIn wsX2_build wsX7_byteAt := goodIn_r _ [16, 17, 18, 40, 41] (by decide +kernel) (by decide +kernel)
set_option maxRecDepth 20000 in
theorem gX2_build_X7_byteAt : GoodIn wsX2_build (wsV RX2 44 RX7 yX7_byteAt wsX7_byteAt) := goodIn_app (goodIn_of _ (by decide +kernel)) ggX2_build_X7_byteAt
set_option maxRecDepth 20000 in
theorem ggX2_build_X7_isFilledPlace : GoodIn wsX2_build wsX7_isFilledPlace := goodIn_r _ [27, 13, 14, 15, 11, 16, 17, 18, 40, 41] (by decide +kernel) (by decide +kernel)
set_option maxRecDepth 20000 in
theorem gX2_build_X7_isFilledPlace : GoodIn wsX2_build (wsV RX2 47 RX7 yX7_isFilledPlace wsX7_isFilledPlace) := goodIn_app (goodIn_of _ (by decide +kernel)) ggX2_build_X7_isFilledPlace
set_option maxRecDepth 20000 in
theorem ggX2_build_X7_bytesOfPlace : GoodIn wsX2_build wsX7_bytesOfPlace := goodIn_r _ [31, 32, 25, 26, 11, 27, 13, 14, 15, 16, 17, 18, 40, 41] (by decide +kernel) (by decide +kernel)
set_option maxRecDepth 20000 in
theorem gX2_build_X7_bytesOfPlace : GoodIn wsX2_build (wsV RX2 51 RX7 yX7_bytesOfPlace wsX7_bytesOfPlace) := goodIn_app (goodIn_of _ (by decide +kernel)) ggX2_build_X7_bytesOfPlace
theorem dX2_build_0 : decode cX2_build 0 = .ok (.aload_n 0, 1) := by decide +kernel
theorem dX2_build_1 : decode cX2_build 1 = .ok (.aload_n 1, 1) := by decide +kernel
theorem dX2_build_2 : decode cX2_build 2 = .ok (.iconst 1, 1) := by decide +kernel
theorem dX2_build_3 : decode cX2_build 3 = .ok (.invokevirtual 34, 3) := by decide +kernel
theorem dX2_build_6 : decode cX2_build 6 = .ok (.putfield 28, 3) := by decide +kernel
theorem dX2_build_9 : decode cX2_build 9 = .ok (.aload_n 0, 1) := by decide +kernel
theorem dX2_build_10 : decode cX2_build 10 = .ok (.bipush 10, 2) := by decide +kernel
theorem dX2_build_12 : decode cX2_build 12 = .ok (.aload_n 1, 1) := by decide +kernel
theorem dX2_build_13 : decode cX2_build 13 = .ok (.iconst 2, 1) := by decide +kernel
theorem dX2_build_14 : decode cX2_build 14 = .ok (.invokevirtual 34, 3) := by decide +kernel
theorem dX2_build_17 : decode cX2_build 17 = .ok (.imul, 1) := by decide +kernel
theorem dX2_build_18 : decode cX2_build 18 = .ok (.aload_n 1, 1) := by decide +kernel
theorem dX2_build_19 : decode cX2_build 19 = .ok (.iconst 3, 1) := by decide +kernel
theorem dX2_build_20 : decode cX2_build 20 = .ok (.invokevirtual 34, 3) := by decide +kernel
theorem dX2_build_23 : decode cX2_build 23 = .ok (.iadd, 1) := by decide +kernel
theorem dX2_build_24 : decode cX2_build 24 = .ok (.putfield 31, 3) := by decide +kernel
theorem dX2_build_27 : decode cX2_build 27 = .ok (.aload_n 0, 1) := by decide +kernel
theorem dX2_build_28 : decode cX2_build 28 = .ok (.iconst 0, 1) := by decide +kernel
theorem dX2_build_29 : decode cX2_build 29 = .ok (.putfield 24, 3) := by decide +kernel
theorem dX2_build_32 : decode cX2_build 32 = .ok (.iconst 4, 1) := by decide +kernel
theorem dX2_build_33 : decode cX2_build 33 = .ok (.istore_n 2, 1) := by decide +kernel
theorem dX2_build_34 : decode cX2_build 34 = .ok (.iconst 0, 1) := by decide +kernel
theorem dX2_build_35 : decode cX2_build 35 = .ok (.istore_n 3, 1) := by decide +kernel
theorem dX2_build_36 : decode cX2_build 36 = .ok (.iload_n 3, 1) := by decide +kernel
theorem dX2_build_37 : decode cX2_build 37 = .ok (.bipush 10, 2) := by decide +kernel
theorem dX2_build_39 : decode cX2_build 39 = .ok (.if_icmp .ge 114, 3) := by decide +kernel
theorem dX2_build_42 : decode cX2_build 42 = .ok (.iload_n 2, 1) := by decide +kernel
theorem dX2_build_43 : decode cX2_build 43 = .ok (.aload_n 1, 1) := by decide +kernel
theorem dX2_build_44 : decode cX2_build 44 = .ok (.invokevirtual 40, 3) := by decide +kernel
theorem dX2_build_47 : decode cX2_build 47 = .ok (.if_icmp .ge 106, 3) := by decide +kernel
theorem dX2_build_50 : decode cX2_build 50 = .ok (.aload_n 0, 1) := by decide +kernel
theorem dX2_build_51 : decode cX2_build 51 = .ok (.getfield 9, 3) := by decide +kernel
theorem dX2_build_54 : decode cX2_build 54 = .ok (.iload_n 3, 1) := by decide +kernel
theorem dX2_build_55 : decode cX2_build 55 = .ok (.aload_n 1, 1) := by decide +kernel
theorem dX2_build_56 : decode cX2_build 56 = .ok (.iload_n 2, 1) := by decide +kernel
theorem dX2_build_57 : decode cX2_build 57 = .ok (.iconst 1, 1) := by decide +kernel
theorem dX2_build_58 : decode cX2_build 58 = .ok (.iadd, 1) := by decide +kernel
theorem dX2_build_59 : decode cX2_build 59 = .ok (.invokevirtual 34, 3) := by decide +kernel
theorem dX2_build_62 : decode cX2_build 62 = .ok (.iastore, 1) := by decide +kernel
theorem dX2_build_63 : decode cX2_build 63 = .ok (.aload_n 0, 1) := by decide +kernel
theorem dX2_build_64 : decode cX2_build 64 = .ok (.getfield 15, 3) := by decide +kernel
theorem dX2_build_67 : decode cX2_build 67 = .ok (.iload_n 3, 1) := by decide +kernel
theorem dX2_build_68 : decode cX2_build 68 = .ok (.aload_n 1, 1) := by decide +kernel
theorem dX2_build_69 : decode cX2_build 69 = .ok (.iload_n 2, 1) := by decide +kernel
theorem dX2_build_70 : decode cX2_build 70 = .ok (.iconst 2, 1) := by decide +kernel
theorem dX2_build_71 : decode cX2_build 71 = .ok (.iadd, 1) := by decide +kernel
theorem dX2_build_72 : decode cX2_build 72 = .ok (.invokevirtual 34, 3) := by decide +kernel
theorem dX2_build_75 : decode cX2_build 75 = .ok (.iastore, 1) := by decide +kernel
theorem dX2_build_76 : decode cX2_build 76 = .ok (.aload_n 0, 1) := by decide +kernel
theorem dX2_build_77 : decode cX2_build 77 = .ok (.getfield 18, 3) := by decide +kernel
theorem dX2_build_80 : decode cX2_build 80 = .ok (.iload_n 3, 1) := by decide +kernel
theorem dX2_build_81 : decode cX2_build 81 = .ok (.aload_n 1, 1) := by decide +kernel
theorem dX2_build_82 : decode cX2_build 82 = .ok (.iload_n 2, 1) := by decide +kernel
theorem dX2_build_83 : decode cX2_build 83 = .ok (.iconst 3, 1) := by decide +kernel
theorem dX2_build_84 : decode cX2_build 84 = .ok (.iadd, 1) := by decide +kernel
theorem dX2_build_85 : decode cX2_build 85 = .ok (.invokevirtual 44, 3) := by decide +kernel
theorem dX2_build_88 : decode cX2_build 88 = .ok (.bipush 45, 2) := by decide +kernel
theorem dX2_build_90 : decode cX2_build 90 = .ok (.if_icmp .ne 8, 3) := by decide +kernel
theorem dX2_build_93 : decode cX2_build 93 = .ok (.bipush (-9), 2) := by decide +kernel
theorem dX2_build_95 : decode cX2_build 95 = .ok (.goto 10, 3) := by decide +kernel
theorem dX2_build_98 : decode cX2_build 98 = .ok (.aload_n 1, 1) := by decide +kernel
theorem dX2_build_99 : decode cX2_build 99 = .ok (.iload_n 2, 1) := by decide +kernel
theorem dX2_build_100 : decode cX2_build 100 = .ok (.iconst 3, 1) := by decide +kernel
theorem dX2_build_101 : decode cX2_build 101 = .ok (.iadd, 1) := by decide +kernel
theorem dX2_build_102 : decode cX2_build 102 = .ok (.invokevirtual 34, 3) := by decide +kernel
theorem dX2_build_105 : decode cX2_build 105 = .ok (.iastore, 1) := by decide +kernel
theorem dX2_build_106 : decode cX2_build 106 = .ok (.aload_n 0, 1) := by decide +kernel
theorem dX2_build_107 : decode cX2_build 107 = .ok (.getfield 21, 3) := by decide +kernel
theorem dX2_build_110 : decode cX2_build 110 = .ok (.iload_n 3, 1) := by decide +kernel
theorem dX2_build_111 : decode cX2_build 111 = .ok (.aload_n 1, 1) := by decide +kernel
theorem dX2_build_112 : decode cX2_build 112 = .ok (.iload_n 2, 1) := by decide +kernel
theorem dX2_build_113 : decode cX2_build 113 = .ok (.invokevirtual 47, 3) := by decide +kernel
theorem dX2_build_116 : decode cX2_build 116 = .ok (.ifCond .eq 13, 3) := by decide +kernel
theorem dX2_build_119 : decode cX2_build 119 = .ok (.aload_n 1, 1) := by decide +kernel
theorem dX2_build_120 : decode cX2_build 120 = .ok (.iload_n 2, 1) := by decide +kernel
theorem dX2_build_121 : decode cX2_build 121 = .ok (.iconst 4, 1) := by decide +kernel
theorem dX2_build_122 : decode cX2_build 122 = .ok (.iadd, 1) := by decide +kernel
theorem dX2_build_123 : decode cX2_build 123 = .ok (.invokevirtual 34, 3) := by decide +kernel
theorem dX2_build_126 : decode cX2_build 126 = .ok (.goto 5, 3) := by decide +kernel
theorem dX2_build_129 : decode cX2_build 129 = .ok (.bipush (-9), 2) := by decide +kernel
theorem dX2_build_131 : decode cX2_build 131 = .ok (.iastore, 1) := by decide +kernel
theorem dX2_build_132 : decode cX2_build 132 = .ok (.aload_n 0, 1) := by decide +kernel
theorem dX2_build_133 : decode cX2_build 133 = .ok (.iload_n 3, 1) := by decide +kernel
theorem dX2_build_134 : decode cX2_build 134 = .ok (.iconst 1, 1) := by decide +kernel
theorem dX2_build_135 : decode cX2_build 135 = .ok (.iadd, 1) := by decide +kernel
theorem dX2_build_136 : decode cX2_build 136 = .ok (.putfield 24, 3) := by decide +kernel
theorem dX2_build_139 : decode cX2_build 139 = .ok (.iload_n 2, 1) := by decide +kernel
theorem dX2_build_140 : decode cX2_build 140 = .ok (.aload_n 1, 1) := by decide +kernel
theorem dX2_build_141 : decode cX2_build 141 = .ok (.iload_n 2, 1) := by decide +kernel
theorem dX2_build_142 : decode cX2_build 142 = .ok (.invokevirtual 51, 3) := by decide +kernel
theorem dX2_build_145 : decode cX2_build 145 = .ok (.iadd, 1) := by decide +kernel
theorem dX2_build_146 : decode cX2_build 146 = .ok (.istore_n 2, 1) := by decide +kernel
theorem dX2_build_147 : decode cX2_build 147 = .ok (.iinc 3 1, 3) := by decide +kernel
theorem dX2_build_150 : decode cX2_build 150 = .ok (.goto (-114), 3) := by decide +kernel
theorem dX2_build_153 : decode cX2_build 153 = .ok (.return_, 1) := by decide +kernel
theorem dX2_places_0 : decode cX2_places 0 = .ok (.aload_n 0, 1) := by decide +kernel
theorem dX2_places_1 : decode cX2_places 1 = .ok (.getfield 24, 3) := by decide +kernel
theorem dX2_places_4 : decode cX2_places 4 = .ok (.ireturn, 1) := by decide +kernel
theorem dX2_pumps_0 : decode cX2_pumps 0 = .ok (.aload_n 0, 1) := by decide +kernel
theorem dX2_pumps_1 : decode cX2_pumps 1 = .ok (.getfield 28, 3) := by decide +kernel
theorem dX2_pumps_4 : decode cX2_pumps 4 = .ok (.ireturn, 1) := by decide +kernel
theorem dX2_hold_0 : decode cX2_hold 0 = .ok (.aload_n 0, 1) := by decide +kernel
theorem dX2_hold_1 : decode cX2_hold 1 = .ok (.getfield 31, 3) := by decide +kernel
theorem dX2_hold_4 : decode cX2_hold 4 = .ok (.ireturn, 1) := by decide +kernel
theorem dX2_isPlace_0 : decode cX2_isPlace 0 = .ok (.iload_n 1, 1) := by decide +kernel
theorem dX2_isPlace_1 : decode cX2_isPlace 1 = .ok (.ifCond .lt 21, 3) := by decide +kernel
theorem dX2_isPlace_4 : decode cX2_isPlace 4 = .ok (.iload_n 1, 1) := by decide +kernel
theorem dX2_isPlace_5 : decode cX2_isPlace 5 = .ok (.aload_n 0, 1) := by decide +kernel
theorem dX2_isPlace_6 : decode cX2_isPlace 6 = .ok (.getfield 24, 3) := by decide +kernel
theorem dX2_isPlace_9 : decode cX2_isPlace 9 = .ok (.if_icmp .ge 13, 3) := by decide +kernel
theorem dX2_isPlace_12 : decode cX2_isPlace 12 = .ok (.iload_n 1, 1) := by decide +kernel
theorem dX2_isPlace_13 : decode cX2_isPlace 13 = .ok (.bipush 10, 2) := by decide +kernel
theorem dX2_isPlace_15 : decode cX2_isPlace 15 = .ok (.if_icmp .ge 7, 3) := by decide +kernel
theorem dX2_isPlace_18 : decode cX2_isPlace 18 = .ok (.iconst 1, 1) := by decide +kernel
theorem dX2_isPlace_19 : decode cX2_isPlace 19 = .ok (.goto 4, 3) := by decide +kernel
theorem dX2_isPlace_22 : decode cX2_isPlace 22 = .ok (.iconst 0, 1) := by decide +kernel
theorem dX2_isPlace_23 : decode cX2_isPlace 23 = .ok (.ireturn, 1) := by decide +kernel
theorem dX2_lengthOf_0 : decode cX2_lengthOf 0 = .ok (.iload_n 1, 1) := by decide +kernel
theorem dX2_lengthOf_1 : decode cX2_lengthOf 1 = .ok (.ifCond .lt 29, 3) := by decide +kernel
theorem dX2_lengthOf_4 : decode cX2_lengthOf 4 = .ok (.iload_n 1, 1) := by decide +kernel
theorem dX2_lengthOf_5 : decode cX2_lengthOf 5 = .ok (.aload_n 0, 1) := by decide +kernel
theorem dX2_lengthOf_6 : decode cX2_lengthOf 6 = .ok (.getfield 24, 3) := by decide +kernel
theorem dX2_lengthOf_9 : decode cX2_lengthOf 9 = .ok (.if_icmp .ge 21, 3) := by decide +kernel
theorem dX2_lengthOf_12 : decode cX2_lengthOf 12 = .ok (.iload_n 1, 1) := by decide +kernel
theorem dX2_lengthOf_13 : decode cX2_lengthOf 13 = .ok (.aload_n 0, 1) := by decide +kernel
theorem dX2_lengthOf_14 : decode cX2_lengthOf 14 = .ok (.getfield 9, 3) := by decide +kernel
theorem dX2_lengthOf_17 : decode cX2_lengthOf 17 = .ok (.arraylength, 1) := by decide +kernel
theorem dX2_lengthOf_18 : decode cX2_lengthOf 18 = .ok (.if_icmp .ge 12, 3) := by decide +kernel
theorem dX2_lengthOf_21 : decode cX2_lengthOf 21 = .ok (.aload_n 0, 1) := by decide +kernel
theorem dX2_lengthOf_22 : decode cX2_lengthOf 22 = .ok (.getfield 9, 3) := by decide +kernel
theorem dX2_lengthOf_25 : decode cX2_lengthOf 25 = .ok (.iload_n 1, 1) := by decide +kernel
theorem dX2_lengthOf_26 : decode cX2_lengthOf 26 = .ok (.iaload, 1) := by decide +kernel
theorem dX2_lengthOf_27 : decode cX2_lengthOf 27 = .ok (.goto 4, 3) := by decide +kernel
theorem dX2_lengthOf_30 : decode cX2_lengthOf 30 = .ok (.iconst 0, 1) := by decide +kernel
theorem dX2_lengthOf_31 : decode cX2_lengthOf 31 = .ok (.ireturn, 1) := by decide +kernel
theorem dX2_letsIn_0 : decode cX2_letsIn 0 = .ok (.iload_n 1, 1) := by decide +kernel
theorem dX2_letsIn_1 : decode cX2_letsIn 1 = .ok (.ifCond .lt 29, 3) := by decide +kernel
theorem dX2_letsIn_4 : decode cX2_letsIn 4 = .ok (.iload_n 1, 1) := by decide +kernel
theorem dX2_letsIn_5 : decode cX2_letsIn 5 = .ok (.aload_n 0, 1) := by decide +kernel
theorem dX2_letsIn_6 : decode cX2_letsIn 6 = .ok (.getfield 24, 3) := by decide +kernel
theorem dX2_letsIn_9 : decode cX2_letsIn 9 = .ok (.if_icmp .ge 21, 3) := by decide +kernel
theorem dX2_letsIn_12 : decode cX2_letsIn 12 = .ok (.iload_n 1, 1) := by decide +kernel
theorem dX2_letsIn_13 : decode cX2_letsIn 13 = .ok (.aload_n 0, 1) := by decide +kernel
theorem dX2_letsIn_14 : decode cX2_letsIn 14 = .ok (.getfield 15, 3) := by decide +kernel
theorem dX2_letsIn_17 : decode cX2_letsIn 17 = .ok (.arraylength, 1) := by decide +kernel
theorem dX2_letsIn_18 : decode cX2_letsIn 18 = .ok (.if_icmp .ge 12, 3) := by decide +kernel
theorem dX2_letsIn_21 : decode cX2_letsIn 21 = .ok (.aload_n 0, 1) := by decide +kernel
theorem dX2_letsIn_22 : decode cX2_letsIn 22 = .ok (.getfield 15, 3) := by decide +kernel
theorem dX2_letsIn_25 : decode cX2_letsIn 25 = .ok (.iload_n 1, 1) := by decide +kernel
theorem dX2_letsIn_26 : decode cX2_letsIn 26 = .ok (.iaload, 1) := by decide +kernel
theorem dX2_letsIn_27 : decode cX2_letsIn 27 = .ok (.goto 4, 3) := by decide +kernel
theorem dX2_letsIn_30 : decode cX2_letsIn 30 = .ok (.iconst 0, 1) := by decide +kernel
theorem dX2_letsIn_31 : decode cX2_letsIn 31 = .ok (.ireturn, 1) := by decide +kernel
theorem dX2_restsOn_0 : decode cX2_restsOn 0 = .ok (.iload_n 1, 1) := by decide +kernel
theorem dX2_restsOn_1 : decode cX2_restsOn 1 = .ok (.ifCond .lt 29, 3) := by decide +kernel
theorem dX2_restsOn_4 : decode cX2_restsOn 4 = .ok (.iload_n 1, 1) := by decide +kernel
theorem dX2_restsOn_5 : decode cX2_restsOn 5 = .ok (.aload_n 0, 1) := by decide +kernel
theorem dX2_restsOn_6 : decode cX2_restsOn 6 = .ok (.getfield 24, 3) := by decide +kernel
theorem dX2_restsOn_9 : decode cX2_restsOn 9 = .ok (.if_icmp .ge 21, 3) := by decide +kernel
theorem dX2_restsOn_12 : decode cX2_restsOn 12 = .ok (.iload_n 1, 1) := by decide +kernel
theorem dX2_restsOn_13 : decode cX2_restsOn 13 = .ok (.aload_n 0, 1) := by decide +kernel
theorem dX2_restsOn_14 : decode cX2_restsOn 14 = .ok (.getfield 18, 3) := by decide +kernel
theorem dX2_restsOn_17 : decode cX2_restsOn 17 = .ok (.arraylength, 1) := by decide +kernel
theorem dX2_restsOn_18 : decode cX2_restsOn 18 = .ok (.if_icmp .ge 12, 3) := by decide +kernel
theorem dX2_restsOn_21 : decode cX2_restsOn 21 = .ok (.aload_n 0, 1) := by decide +kernel
theorem dX2_restsOn_22 : decode cX2_restsOn 22 = .ok (.getfield 18, 3) := by decide +kernel
theorem dX2_restsOn_25 : decode cX2_restsOn 25 = .ok (.iload_n 1, 1) := by decide +kernel
theorem dX2_restsOn_26 : decode cX2_restsOn 26 = .ok (.iaload, 1) := by decide +kernel
theorem dX2_restsOn_27 : decode cX2_restsOn 27 = .ok (.goto 5, 3) := by decide +kernel
theorem dX2_restsOn_30 : decode cX2_restsOn 30 = .ok (.bipush (-9), 2) := by decide +kernel
theorem dX2_restsOn_32 : decode cX2_restsOn 32 = .ok (.ireturn, 1) := by decide +kernel
theorem dX2_shipOf_0 : decode cX2_shipOf 0 = .ok (.iload_n 1, 1) := by decide +kernel
theorem dX2_shipOf_1 : decode cX2_shipOf 1 = .ok (.ifCond .lt 29, 3) := by decide +kernel
theorem dX2_shipOf_4 : decode cX2_shipOf 4 = .ok (.iload_n 1, 1) := by decide +kernel
theorem dX2_shipOf_5 : decode cX2_shipOf 5 = .ok (.aload_n 0, 1) := by decide +kernel
theorem dX2_shipOf_6 : decode cX2_shipOf 6 = .ok (.getfield 24, 3) := by decide +kernel
theorem dX2_shipOf_9 : decode cX2_shipOf 9 = .ok (.if_icmp .ge 21, 3) := by decide +kernel
theorem dX2_shipOf_12 : decode cX2_shipOf 12 = .ok (.iload_n 1, 1) := by decide +kernel
theorem dX2_shipOf_13 : decode cX2_shipOf 13 = .ok (.aload_n 0, 1) := by decide +kernel
theorem dX2_shipOf_14 : decode cX2_shipOf 14 = .ok (.getfield 21, 3) := by decide +kernel
theorem dX2_shipOf_17 : decode cX2_shipOf 17 = .ok (.arraylength, 1) := by decide +kernel
theorem dX2_shipOf_18 : decode cX2_shipOf 18 = .ok (.if_icmp .ge 12, 3) := by decide +kernel
theorem dX2_shipOf_21 : decode cX2_shipOf 21 = .ok (.aload_n 0, 1) := by decide +kernel
theorem dX2_shipOf_22 : decode cX2_shipOf 22 = .ok (.getfield 21, 3) := by decide +kernel
theorem dX2_shipOf_25 : decode cX2_shipOf 25 = .ok (.iload_n 1, 1) := by decide +kernel
theorem dX2_shipOf_26 : decode cX2_shipOf 26 = .ok (.iaload, 1) := by decide +kernel
theorem dX2_shipOf_27 : decode cX2_shipOf 27 = .ok (.goto 5, 3) := by decide +kernel
theorem dX2_shipOf_30 : decode cX2_shipOf 30 = .ok (.bipush (-9), 2) := by decide +kernel
theorem dX2_shipOf_32 : decode cX2_shipOf 32 = .ok (.ireturn, 1) := by decide +kernel
set_option maxRecDepth 20000 in
theorem ggX2_leakOf_X3_isOpen : GoodIn wsX2_leakOf wsX3_isOpen := goodIn_r _ [6, 7, 21, 22, 23, 24, 25, 26] (by decide +kernel) (by decide +kernel)
set_option maxRecDepth 20000 in
theorem gX2_leakOf_X3_isOpen : GoodIn wsX2_leakOf (wsV RX2 54 RX3 yX3_isOpen wsX3_isOpen) := goodIn_app (goodIn_of _ (by decide +kernel)) ggX2_leakOf_X3_isOpen
set_option maxRecDepth 20000 in
theorem ggX2_leakOf_X2_letsIn : GoodIn wsX2_leakOf wsX2_letsIn := goodIn_r _ [12, 1, 13, 14, 15, 16, 17, 18, 19, 20] (by decide +kernel) (by decide +kernel)
set_option maxRecDepth 20000 in
theorem gX2_leakOf_X2_letsIn : GoodIn wsX2_leakOf (wsV RX2 59 RX2 yX2_letsIn wsX2_letsIn) := goodIn_app (goodIn_of _ (by decide +kernel)) ggX2_leakOf_X2_letsIn
theorem dX2_leakOf_0 : decode cX2_leakOf 0 = .ok (.iconst 0, 1) := by decide +kernel
theorem dX2_leakOf_1 : decode cX2_leakOf 1 = .ok (.istore_n 2, 1) := by decide +kernel
theorem dX2_leakOf_2 : decode cX2_leakOf 2 = .ok (.iconst 0, 1) := by decide +kernel
theorem dX2_leakOf_3 : decode cX2_leakOf 3 = .ok (.istore_n 3, 1) := by decide +kernel
theorem dX2_leakOf_4 : decode cX2_leakOf 4 = .ok (.iload_n 3, 1) := by decide +kernel
theorem dX2_leakOf_5 : decode cX2_leakOf 5 = .ok (.aload_n 0, 1) := by decide +kernel
theorem dX2_leakOf_6 : decode cX2_leakOf 6 = .ok (.getfield 24, 3) := by decide +kernel
theorem dX2_leakOf_9 : decode cX2_leakOf 9 = .ok (.if_icmp .ge 29, 3) := by decide +kernel
theorem dX2_leakOf_12 : decode cX2_leakOf 12 = .ok (.iload_n 2, 1) := by decide +kernel
theorem dX2_leakOf_13 : decode cX2_leakOf 13 = .ok (.aload_n 1, 1) := by decide +kernel
theorem dX2_leakOf_14 : decode cX2_leakOf 14 = .ok (.iload_n 3, 1) := by decide +kernel
theorem dX2_leakOf_15 : decode cX2_leakOf 15 = .ok (.invokevirtual 54, 3) := by decide +kernel
theorem dX2_leakOf_18 : decode cX2_leakOf 18 = .ok (.ifCond .eq 11, 3) := by decide +kernel
theorem dX2_leakOf_21 : decode cX2_leakOf 21 = .ok (.aload_n 0, 1) := by decide +kernel
theorem dX2_leakOf_22 : decode cX2_leakOf 22 = .ok (.iload_n 3, 1) := by decide +kernel
theorem dX2_leakOf_23 : decode cX2_leakOf 23 = .ok (.invokevirtual 59, 3) := by decide +kernel
theorem dX2_leakOf_26 : decode cX2_leakOf 26 = .ok (.goto 4, 3) := by decide +kernel
theorem dX2_leakOf_29 : decode cX2_leakOf 29 = .ok (.iconst 0, 1) := by decide +kernel
theorem dX2_leakOf_30 : decode cX2_leakOf 30 = .ok (.iadd, 1) := by decide +kernel
theorem dX2_leakOf_31 : decode cX2_leakOf 31 = .ok (.istore_n 2, 1) := by decide +kernel
theorem dX2_leakOf_32 : decode cX2_leakOf 32 = .ok (.iinc 3 1, 3) := by decide +kernel
theorem dX2_leakOf_35 : decode cX2_leakOf 35 = .ok (.goto (-31), 3) := by decide +kernel
theorem dX2_leakOf_38 : decode cX2_leakOf 38 = .ok (.iload_n 2, 1) := by decide +kernel
theorem dX2_leakOf_39 : decode cX2_leakOf 39 = .ok (.ireturn, 1) := by decide +kernel
set_option maxRecDepth 20000 in
theorem ggX2_openPlaces_X3_isOpen : GoodIn wsX2_openPlaces wsX3_isOpen := goodIn_r _ [6, 7, 15, 16, 17, 18, 19, 20] (by decide +kernel) (by decide +kernel)
set_option maxRecDepth 20000 in
theorem gX2_openPlaces_X3_isOpen : GoodIn wsX2_openPlaces (wsV RX2 54 RX3 yX3_isOpen wsX3_isOpen) := goodIn_app (goodIn_of _ (by decide +kernel)) ggX2_openPlaces_X3_isOpen
theorem dX2_openPlaces_0 : decode cX2_openPlaces 0 = .ok (.iconst 0, 1) := by decide +kernel
theorem dX2_openPlaces_1 : decode cX2_openPlaces 1 = .ok (.istore_n 2, 1) := by decide +kernel
theorem dX2_openPlaces_2 : decode cX2_openPlaces 2 = .ok (.iconst 0, 1) := by decide +kernel
theorem dX2_openPlaces_3 : decode cX2_openPlaces 3 = .ok (.istore_n 3, 1) := by decide +kernel
theorem dX2_openPlaces_4 : decode cX2_openPlaces 4 = .ok (.iload_n 3, 1) := by decide +kernel
theorem dX2_openPlaces_5 : decode cX2_openPlaces 5 = .ok (.aload_n 0, 1) := by decide +kernel
theorem dX2_openPlaces_6 : decode cX2_openPlaces 6 = .ok (.getfield 24, 3) := by decide +kernel
theorem dX2_openPlaces_9 : decode cX2_openPlaces 9 = .ok (.if_icmp .ge 27, 3) := by decide +kernel
theorem dX2_openPlaces_12 : decode cX2_openPlaces 12 = .ok (.iload_n 2, 1) := by decide +kernel
theorem dX2_openPlaces_13 : decode cX2_openPlaces 13 = .ok (.aload_n 1, 1) := by decide +kernel
theorem dX2_openPlaces_14 : decode cX2_openPlaces 14 = .ok (.iload_n 3, 1) := by decide +kernel
theorem dX2_openPlaces_15 : decode cX2_openPlaces 15 = .ok (.invokevirtual 54, 3) := by decide +kernel
theorem dX2_openPlaces_18 : decode cX2_openPlaces 18 = .ok (.ifCond .eq 9, 3) := by decide +kernel
theorem dX2_openPlaces_21 : decode cX2_openPlaces 21 = .ok (.iconst 1, 1) := by decide +kernel
theorem dX2_openPlaces_22 : decode cX2_openPlaces 22 = .ok (.iload_n 3, 1) := by decide +kernel
theorem dX2_openPlaces_23 : decode cX2_openPlaces 23 = .ok (.ishl, 1) := by decide +kernel
theorem dX2_openPlaces_24 : decode cX2_openPlaces 24 = .ok (.goto 4, 3) := by decide +kernel
theorem dX2_openPlaces_27 : decode cX2_openPlaces 27 = .ok (.iconst 0, 1) := by decide +kernel
theorem dX2_openPlaces_28 : decode cX2_openPlaces 28 = .ok (.ior, 1) := by decide +kernel
theorem dX2_openPlaces_29 : decode cX2_openPlaces 29 = .ok (.istore_n 2, 1) := by decide +kernel
theorem dX2_openPlaces_30 : decode cX2_openPlaces 30 = .ok (.iinc 3 1, 3) := by decide +kernel
theorem dX2_openPlaces_33 : decode cX2_openPlaces 33 = .ok (.goto (-29), 3) := by decide +kernel
theorem dX2_openPlaces_36 : decode cX2_openPlaces 36 = .ok (.iload_n 2, 1) := by decide +kernel
theorem dX2_openPlaces_37 : decode cX2_openPlaces 37 = .ok (.ireturn, 1) := by decide +kernel
set_option maxRecDepth 20000 in
theorem ggX2_mayBeTakenFrom_X3_isOpen : GoodIn wsX2_mayBeTakenFrom wsX3_isOpen := goodIn_r _ [6, 7, 21, 22, 23, 24, 25, 26] (by decide +kernel) (by decide +kernel)
set_option maxRecDepth 20000 in
theorem gX2_mayBeTakenFrom_X3_isOpen : GoodIn wsX2_mayBeTakenFrom (wsV RX2 54 RX3 yX3_isOpen wsX3_isOpen) := goodIn_app (goodIn_of _ (by decide +kernel)) ggX2_mayBeTakenFrom_X3_isOpen
set_option maxRecDepth 20000 in
theorem ggX2_mayBeTakenFrom_X2_restsOn : GoodIn wsX2_mayBeTakenFrom wsX2_restsOn := goodIn_r _ [12, 1, 13, 14, 15, 16, 17, 18, 19, 20] (by decide +kernel) (by decide +kernel)
set_option maxRecDepth 20000 in
theorem gX2_mayBeTakenFrom_X2_restsOn : GoodIn wsX2_mayBeTakenFrom (wsV RX2 61 RX2 yX2_restsOn wsX2_restsOn) := goodIn_app (goodIn_of _ (by decide +kernel)) ggX2_mayBeTakenFrom_X2_restsOn
theorem dX2_mayBeTakenFrom_0 : decode cX2_mayBeTakenFrom 0 = .ok (.aload_n 2, 1) := by decide +kernel
theorem dX2_mayBeTakenFrom_1 : decode cX2_mayBeTakenFrom 1 = .ok (.iload_n 1, 1) := by decide +kernel
theorem dX2_mayBeTakenFrom_2 : decode cX2_mayBeTakenFrom 2 = .ok (.invokevirtual 54, 3) := by decide +kernel
theorem dX2_mayBeTakenFrom_5 : decode cX2_mayBeTakenFrom 5 = .ok (.ifCond .eq 5, 3) := by decide +kernel
theorem dX2_mayBeTakenFrom_8 : decode cX2_mayBeTakenFrom 8 = .ok (.iconst 0, 1) := by decide +kernel
theorem dX2_mayBeTakenFrom_9 : decode cX2_mayBeTakenFrom 9 = .ok (.ireturn, 1) := by decide +kernel
theorem dX2_mayBeTakenFrom_10 : decode cX2_mayBeTakenFrom 10 = .ok (.iconst 0, 1) := by decide +kernel
theorem dX2_mayBeTakenFrom_11 : decode cX2_mayBeTakenFrom 11 = .ok (.istore_n 3, 1) := by decide +kernel
theorem dX2_mayBeTakenFrom_12 : decode cX2_mayBeTakenFrom 12 = .ok (.iload_n 3, 1) := by decide +kernel
theorem dX2_mayBeTakenFrom_13 : decode cX2_mayBeTakenFrom 13 = .ok (.aload_n 0, 1) := by decide +kernel
theorem dX2_mayBeTakenFrom_14 : decode cX2_mayBeTakenFrom 14 = .ok (.getfield 24, 3) := by decide +kernel
theorem dX2_mayBeTakenFrom_17 : decode cX2_mayBeTakenFrom 17 = .ok (.if_icmp .ge 28, 3) := by decide +kernel
theorem dX2_mayBeTakenFrom_20 : decode cX2_mayBeTakenFrom 20 = .ok (.aload_n 0, 1) := by decide +kernel
theorem dX2_mayBeTakenFrom_21 : decode cX2_mayBeTakenFrom 21 = .ok (.iload_n 3, 1) := by decide +kernel
theorem dX2_mayBeTakenFrom_22 : decode cX2_mayBeTakenFrom 22 = .ok (.invokevirtual 61, 3) := by decide +kernel
theorem dX2_mayBeTakenFrom_25 : decode cX2_mayBeTakenFrom 25 = .ok (.iload_n 1, 1) := by decide +kernel
theorem dX2_mayBeTakenFrom_26 : decode cX2_mayBeTakenFrom 26 = .ok (.if_icmp .ne 13, 3) := by decide +kernel
theorem dX2_mayBeTakenFrom_29 : decode cX2_mayBeTakenFrom 29 = .ok (.aload_n 2, 1) := by decide +kernel
theorem dX2_mayBeTakenFrom_30 : decode cX2_mayBeTakenFrom 30 = .ok (.iload_n 3, 1) := by decide +kernel
theorem dX2_mayBeTakenFrom_31 : decode cX2_mayBeTakenFrom 31 = .ok (.invokevirtual 54, 3) := by decide +kernel
theorem dX2_mayBeTakenFrom_34 : decode cX2_mayBeTakenFrom 34 = .ok (.ifCond .ne 5, 3) := by decide +kernel
theorem dX2_mayBeTakenFrom_37 : decode cX2_mayBeTakenFrom 37 = .ok (.iconst 0, 1) := by decide +kernel
theorem dX2_mayBeTakenFrom_38 : decode cX2_mayBeTakenFrom 38 = .ok (.ireturn, 1) := by decide +kernel
theorem dX2_mayBeTakenFrom_39 : decode cX2_mayBeTakenFrom 39 = .ok (.iinc 3 1, 3) := by decide +kernel
theorem dX2_mayBeTakenFrom_42 : decode cX2_mayBeTakenFrom 42 = .ok (.goto (-30), 3) := by decide +kernel
theorem dX2_mayBeTakenFrom_45 : decode cX2_mayBeTakenFrom 45 = .ok (.iconst 1, 1) := by decide +kernel
theorem dX2_mayBeTakenFrom_46 : decode cX2_mayBeTakenFrom 46 = .ok (.ireturn, 1) := by decide +kernel
set_option maxRecDepth 20000 in
theorem ggX2_fits_X2_restsOn : GoodIn wsX2_fits wsX2_restsOn := goodIn_r _ [5, 6, 7, 28, 29, 30, 31, 32, 33, 34] (by decide +kernel) (by decide +kernel)
set_option maxRecDepth 20000 in
theorem gX2_fits_X2_restsOn : GoodIn wsX2_fits (wsV RX2 61 RX2 yX2_restsOn wsX2_restsOn) := goodIn_app (goodIn_of _ (by decide +kernel)) ggX2_fits_X2_restsOn
set_option maxRecDepth 20000 in
theorem ggX2_fits_X2_isPlace : GoodIn wsX2_fits wsX2_isPlace := goodIn_r _ [11, 6, 28, 29, 30, 31, 32, 33, 34] (by decide +kernel) (by decide +kernel)
set_option maxRecDepth 20000 in
theorem gX2_fits_X2_isPlace : GoodIn wsX2_fits (wsV RX2 63 RX2 yX2_isPlace wsX2_isPlace) := goodIn_app (goodIn_of _ (by decide +kernel)) ggX2_fits_X2_isPlace
set_option maxRecDepth 20000 in
theorem ggX2_fits_X3_isOpen : GoodIn wsX2_fits wsX3_isOpen := goodIn_r _ [16, 17, 35, 36, 37, 38, 39, 40] (by decide +kernel) (by decide +kernel)
set_option maxRecDepth 20000 in
theorem gX2_fits_X3_isOpen : GoodIn wsX2_fits (wsV RX2 54 RX3 yX3_isOpen wsX3_isOpen) := goodIn_app (goodIn_of _ (by decide +kernel)) ggX2_fits_X3_isOpen
set_option maxRecDepth 20000 in
theorem ggX2_fits_X3_lengthOf : GoodIn wsX2_fits wsX3_lengthOf := goodIn_r _ [21, 22, 35, 36, 37, 38, 39, 40] (by decide +kernel) (by decide +kernel)
set_option maxRecDepth 20000 in
theorem gX2_fits_X3_lengthOf : GoodIn wsX2_fits (wsV RX2 66 RX3 yX3_lengthOf wsX3_lengthOf) := goodIn_app (goodIn_of _ (by decide +kernel)) ggX2_fits_X3_lengthOf
set_option maxRecDepth 20000 in
theorem ggX2_fits_X2_lengthOf : GoodIn wsX2_fits wsX2_lengthOf := goodIn_r _ [26, 6, 27, 28, 29, 30, 31, 32, 33, 34] (by decide +kernel) (by decide +kernel)
set_option maxRecDepth 20000 in
theorem gX2_fits_X2_lengthOf : GoodIn wsX2_fits (wsV RX2 69 RX2 yX2_lengthOf wsX2_lengthOf) := goodIn_app (goodIn_of _ (by decide +kernel)) ggX2_fits_X2_lengthOf
theorem dX2_fits_0 : decode cX2_fits 0 = .ok (.aload_n 0, 1) := by decide +kernel
theorem dX2_fits_1 : decode cX2_fits 1 = .ok (.iload_n 2, 1) := by decide +kernel
theorem dX2_fits_2 : decode cX2_fits 2 = .ok (.invokevirtual 61, 3) := by decide +kernel
theorem dX2_fits_5 : decode cX2_fits 5 = .ok (.istore 4, 2) := by decide +kernel
theorem dX2_fits_7 : decode cX2_fits 7 = .ok (.aload_n 0, 1) := by decide +kernel
theorem dX2_fits_8 : decode cX2_fits 8 = .ok (.iload_n 2, 1) := by decide +kernel
theorem dX2_fits_9 : decode cX2_fits 9 = .ok (.invokevirtual 63, 3) := by decide +kernel
theorem dX2_fits_12 : decode cX2_fits 12 = .ok (.ifCond .eq 44, 3) := by decide +kernel
theorem dX2_fits_15 : decode cX2_fits 15 = .ok (.aload_n 3, 1) := by decide +kernel
theorem dX2_fits_16 : decode cX2_fits 16 = .ok (.iload_n 2, 1) := by decide +kernel
theorem dX2_fits_17 : decode cX2_fits 17 = .ok (.invokevirtual 54, 3) := by decide +kernel
theorem dX2_fits_20 : decode cX2_fits 20 = .ok (.ifCond .eq 36, 3) := by decide +kernel
theorem dX2_fits_23 : decode cX2_fits 23 = .ok (.aload_n 3, 1) := by decide +kernel
theorem dX2_fits_24 : decode cX2_fits 24 = .ok (.iload_n 1, 1) := by decide +kernel
theorem dX2_fits_25 : decode cX2_fits 25 = .ok (.invokevirtual 66, 3) := by decide +kernel
theorem dX2_fits_28 : decode cX2_fits 28 = .ok (.aload_n 0, 1) := by decide +kernel
theorem dX2_fits_29 : decode cX2_fits 29 = .ok (.iload_n 2, 1) := by decide +kernel
theorem dX2_fits_30 : decode cX2_fits 30 = .ok (.invokevirtual 69, 3) := by decide +kernel
theorem dX2_fits_33 : decode cX2_fits 33 = .ok (.if_icmp .lt 23, 3) := by decide +kernel
theorem dX2_fits_36 : decode cX2_fits 36 = .ok (.iload 4, 2) := by decide +kernel
theorem dX2_fits_38 : decode cX2_fits 38 = .ok (.bipush (-9), 2) := by decide +kernel
theorem dX2_fits_40 : decode cX2_fits 40 = .ok (.if_icmp .eq 12, 3) := by decide +kernel
theorem dX2_fits_43 : decode cX2_fits 43 = .ok (.aload_n 3, 1) := by decide +kernel
theorem dX2_fits_44 : decode cX2_fits 44 = .ok (.iload 4, 2) := by decide +kernel
theorem dX2_fits_46 : decode cX2_fits 46 = .ok (.invokevirtual 54, 3) := by decide +kernel
theorem dX2_fits_49 : decode cX2_fits 49 = .ok (.ifCond .ne 7, 3) := by decide +kernel
theorem dX2_fits_52 : decode cX2_fits 52 = .ok (.iconst 1, 1) := by decide +kernel
theorem dX2_fits_53 : decode cX2_fits 53 = .ok (.goto 4, 3) := by decide +kernel
theorem dX2_fits_56 : decode cX2_fits 56 = .ok (.iconst 0, 1) := by decide +kernel
theorem dX2_fits_57 : decode cX2_fits 57 = .ok (.ireturn, 1) := by decide +kernel
set_option maxRecDepth 20000 in
theorem ggX2_mayBeMoved_X3_whereIs : GoodIn wsX2_mayBeMoved wsX3_whereIs := goodIn_r _ [5, 6, 41, 42, 43, 44, 45, 46] (by decide +kernel) (by decide +kernel)
set_option maxRecDepth 20000 in
theorem gX2_mayBeMoved_X3_whereIs : GoodIn wsX2_mayBeMoved (wsV RX2 70 RX3 yX3_whereIs wsX3_whereIs) := goodIn_app (goodIn_of _ (by decide +kernel)) ggX2_mayBeMoved_X3_whereIs
set_option maxRecDepth 20000 in
theorem ggX2_mayBeMoved_X2_fits : GoodIn wsX2_mayBeMoved wsX2_fits := goodIn_r _ [11, 12, 13, 14, 10, 15, 16, 17, 18, 19, 20, 21, 22, 23, 24, 4, 25, 26, 27, 28, 29, 30, 31, 32, 33, 34, 35, 36, 47, 48, 49, 50, 51, 52, 53, 41, 42, 43, 44, 45, 46] (by decide +kernel) (by decide +kernel)
set_option maxRecDepth 20000 in
theorem gX2_mayBeMoved_X2_fits : GoodIn wsX2_mayBeMoved (wsV RX2 73 RX2 yX2_fits wsX2_fits) := goodIn_app (goodIn_of _ (by decide +kernel)) ggX2_mayBeMoved_X2_fits
set_option maxRecDepth 20000 in
theorem ggX2_mayBeMoved_X2_isPlace : GoodIn wsX2_mayBeMoved wsX2_isPlace := goodIn_r _ [21, 16, 47, 48, 49, 50, 51, 52, 53] (by decide +kernel) (by decide +kernel)
set_option maxRecDepth 20000 in
theorem gX2_mayBeMoved_X2_isPlace : GoodIn wsX2_mayBeMoved (wsV RX2 63 RX2 yX2_isPlace wsX2_isPlace) := goodIn_app (goodIn_of _ (by decide +kernel)) ggX2_mayBeMoved_X2_isPlace
set_option maxRecDepth 20000 in
theorem ggX2_mayBeMoved_X2_mayBeTakenFrom : GoodIn wsX2_mayBeMoved wsX2_mayBeTakenFrom := goodIn_r _ [40, 16, 22, 23, 24, 4, 25, 26, 12, 13, 14, 10, 15, 17, 47, 48, 49, 50, 51, 52, 53, 41, 42, 43, 44, 45, 46] (by decide +kernel) (by decide +kernel)
set_option maxRecDepth 20000 in
theorem gX2_mayBeMoved_X2_mayBeTakenFrom : GoodIn wsX2_mayBeMoved (wsV RX2 77 RX2 yX2_mayBeTakenFrom wsX2_mayBeTakenFrom) := goodIn_app (goodIn_of _ (by decide +kernel)) ggX2_mayBeMoved_X2_mayBeTakenFrom
set_option maxRecDepth 20000 in
theorem ggX2_mayBeMoved_X2_restsOn : GoodIn wsX2_mayBeMoved wsX2_restsOn := goodIn_r _ [15, 16, 17, 47, 48, 49, 50, 51, 52, 53] (by decide +kernel) (by decide +kernel)
set_option maxRecDepth 20000 in
theorem gX2_mayBeMoved_X2_restsOn : GoodIn wsX2_mayBeMoved (wsV RX2 61 RX2 yX2_restsOn wsX2_restsOn) := goodIn_app (goodIn_of _ (by decide +kernel)) ggX2_mayBeMoved_X2_restsOn
theorem dX2_mayBeMoved_0 : decode cX2_mayBeMoved 0 = .ok (.aload_n 3, 1) := by decide +kernel
theorem dX2_mayBeMoved_1 : decode cX2_mayBeMoved 1 = .ok (.iload_n 1, 1) := by decide +kernel
theorem dX2_mayBeMoved_2 : decode cX2_mayBeMoved 2 = .ok (.invokevirtual 70, 3) := by decide +kernel
theorem dX2_mayBeMoved_5 : decode cX2_mayBeMoved 5 = .ok (.istore 4, 2) := by decide +kernel
theorem dX2_mayBeMoved_7 : decode cX2_mayBeMoved 7 = .ok (.iload 4, 2) := by decide +kernel
theorem dX2_mayBeMoved_9 : decode cX2_mayBeMoved 9 = .ok (.bipush 100, 2) := by decide +kernel
theorem dX2_mayBeMoved_11 : decode cX2_mayBeMoved 11 = .ok (.if_icmp .ne 11, 3) := by decide +kernel
theorem dX2_mayBeMoved_14 : decode cX2_mayBeMoved 14 = .ok (.aload_n 0, 1) := by decide +kernel
theorem dX2_mayBeMoved_15 : decode cX2_mayBeMoved 15 = .ok (.iload_n 1, 1) := by decide +kernel
theorem dX2_mayBeMoved_16 : decode cX2_mayBeMoved 16 = .ok (.iload_n 2, 1) := by decide +kernel
theorem dX2_mayBeMoved_17 : decode cX2_mayBeMoved 17 = .ok (.aload_n 3, 1) := by decide +kernel
theorem dX2_mayBeMoved_18 : decode cX2_mayBeMoved 18 = .ok (.invokevirtual 73, 3) := by decide +kernel
theorem dX2_mayBeMoved_21 : decode cX2_mayBeMoved 21 = .ok (.ireturn, 1) := by decide +kernel
theorem dX2_mayBeMoved_22 : decode cX2_mayBeMoved 22 = .ok (.aload_n 0, 1) := by decide +kernel
theorem dX2_mayBeMoved_23 : decode cX2_mayBeMoved 23 = .ok (.iload 4, 2) := by decide +kernel
theorem dX2_mayBeMoved_25 : decode cX2_mayBeMoved 25 = .ok (.invokevirtual 63, 3) := by decide +kernel
theorem dX2_mayBeMoved_28 : decode cX2_mayBeMoved 28 = .ok (.ifCond .eq 37, 3) := by decide +kernel
theorem dX2_mayBeMoved_31 : decode cX2_mayBeMoved 31 = .ok (.aload_n 0, 1) := by decide +kernel
theorem dX2_mayBeMoved_32 : decode cX2_mayBeMoved 32 = .ok (.iload 4, 2) := by decide +kernel
theorem dX2_mayBeMoved_34 : decode cX2_mayBeMoved 34 = .ok (.aload_n 3, 1) := by decide +kernel
theorem dX2_mayBeMoved_35 : decode cX2_mayBeMoved 35 = .ok (.invokevirtual 77, 3) := by decide +kernel
theorem dX2_mayBeMoved_38 : decode cX2_mayBeMoved 38 = .ok (.ifCond .eq 27, 3) := by decide +kernel
theorem dX2_mayBeMoved_41 : decode cX2_mayBeMoved 41 = .ok (.aload_n 0, 1) := by decide +kernel
theorem dX2_mayBeMoved_42 : decode cX2_mayBeMoved 42 = .ok (.iload_n 2, 1) := by decide +kernel
theorem dX2_mayBeMoved_43 : decode cX2_mayBeMoved 43 = .ok (.invokevirtual 61, 3) := by decide +kernel
theorem dX2_mayBeMoved_46 : decode cX2_mayBeMoved 46 = .ok (.iload 4, 2) := by decide +kernel
theorem dX2_mayBeMoved_48 : decode cX2_mayBeMoved 48 = .ok (.if_icmp .eq 17, 3) := by decide +kernel
theorem dX2_mayBeMoved_51 : decode cX2_mayBeMoved 51 = .ok (.aload_n 0, 1) := by decide +kernel
theorem dX2_mayBeMoved_52 : decode cX2_mayBeMoved 52 = .ok (.iload_n 1, 1) := by decide +kernel
theorem dX2_mayBeMoved_53 : decode cX2_mayBeMoved 53 = .ok (.iload_n 2, 1) := by decide +kernel
theorem dX2_mayBeMoved_54 : decode cX2_mayBeMoved 54 = .ok (.aload_n 3, 1) := by decide +kernel
theorem dX2_mayBeMoved_55 : decode cX2_mayBeMoved 55 = .ok (.invokevirtual 73, 3) := by decide +kernel
theorem dX2_mayBeMoved_58 : decode cX2_mayBeMoved 58 = .ok (.ifCond .eq 7, 3) := by decide +kernel
theorem dX2_mayBeMoved_61 : decode cX2_mayBeMoved 61 = .ok (.iconst 1, 1) := by decide +kernel
theorem dX2_mayBeMoved_62 : decode cX2_mayBeMoved 62 = .ok (.goto 4, 3) := by decide +kernel
theorem dX2_mayBeMoved_65 : decode cX2_mayBeMoved 65 = .ok (.iconst 0, 1) := by decide +kernel
theorem dX2_mayBeMoved_66 : decode cX2_mayBeMoved 66 = .ok (.ireturn, 1) := by decide +kernel
set_option maxRecDepth 20000 in
theorem ggX2_bringInto_X3_bringTo : GoodIn wsX2_bringInto wsX3_bringTo := goodIn_r _ [5, 6, 7, 20, 21, 22, 23, 24, 25] (by decide +kernel) (by decide +kernel)
set_option maxRecDepth 20000 in
theorem gX2_bringInto_X3_bringTo : GoodIn wsX2_bringInto (wsV RX2 81 RX3 yX3_bringTo wsX3_bringTo) := goodIn_app (goodIn_of _ (by decide +kernel)) ggX2_bringInto_X3_bringTo
set_option maxRecDepth 20000 in
theorem ggX2_bringInto_X2_lengthOf : GoodIn wsX2_bringInto wsX2_lengthOf := goodIn_r _ [12, 13, 14, 26, 27, 28, 29, 30, 31, 32] (by decide +kernel) (by decide +kernel)
set_option maxRecDepth 20000 in
theorem gX2_bringInto_X2_lengthOf : GoodIn wsX2_bringInto (wsV RX2 69 RX2 yX2_lengthOf wsX2_lengthOf) := goodIn_app (goodIn_of _ (by decide +kernel)) ggX2_bringInto_X2_lengthOf
set_option maxRecDepth 20000 in
theorem ggX2_bringInto_X3_cutTo : GoodIn wsX2_bringInto wsX3_cutTo := goodIn_r _ [18, 19, 20, 21, 22, 23, 24, 25] (by decide +kernel) (by decide +kernel)
set_option maxRecDepth 20000 in
theorem gX2_bringInto_X3_cutTo : GoodIn wsX2_bringInto (wsV RX2 85 RX3 yX3_cutTo wsX3_cutTo) := goodIn_app (goodIn_of _ (by decide +kernel)) ggX2_bringInto_X3_cutTo
theorem dX2_bringInto_0 : decode cX2_bringInto 0 = .ok (.aload_n 3, 1) := by decide +kernel
theorem dX2_bringInto_1 : decode cX2_bringInto 1 = .ok (.iload_n 1, 1) := by decide +kernel
theorem dX2_bringInto_2 : decode cX2_bringInto 2 = .ok (.iload_n 2, 1) := by decide +kernel
theorem dX2_bringInto_3 : decode cX2_bringInto 3 = .ok (.invokevirtual 81, 3) := by decide +kernel
theorem dX2_bringInto_6 : decode cX2_bringInto 6 = .ok (.aload_n 3, 1) := by decide +kernel
theorem dX2_bringInto_7 : decode cX2_bringInto 7 = .ok (.iload_n 1, 1) := by decide +kernel
theorem dX2_bringInto_8 : decode cX2_bringInto 8 = .ok (.aload_n 0, 1) := by decide +kernel
theorem dX2_bringInto_9 : decode cX2_bringInto 9 = .ok (.iload_n 2, 1) := by decide +kernel
theorem dX2_bringInto_10 : decode cX2_bringInto 10 = .ok (.invokevirtual 69, 3) := by decide +kernel
theorem dX2_bringInto_13 : decode cX2_bringInto 13 = .ok (.invokevirtual 85, 3) := by decide +kernel
theorem dX2_bringInto_16 : decode cX2_bringInto 16 = .ok (.return_, 1) := by decide +kernel
set_option maxRecDepth 20000 in
theorem ggX2_passWatch_X3_waterInside : GoodIn wsX2_passWatch wsX3_waterInside := goodIn_r _ [11, 12, 80, 81, 82, 83, 84, 85] (by decide +kernel) (by decide +kernel)
set_option maxRecDepth 20000 in
theorem gX2_passWatch_X3_waterInside : GoodIn wsX2_passWatch (wsV RX2 88 RX3 yX3_waterInside wsX3_waterInside) := goodIn_app (goodIn_of _ (by decide +kernel)) ggX2_passWatch_X3_waterInside
set_option maxRecDepth 20000 in
theorem ggX2_passWatch_X2_leakOf : GoodIn wsX2_passWatch wsX2_leakOf := goodIn_r _ [17, 18, 19, 20, 21, 10, 22, 23, 24, 25, 26, 16, 27, 28, 73, 74, 75, 76, 77, 78, 79, 80, 81, 82, 83, 84, 85] (by decide +kernel) (by decide +kernel)
set_option maxRecDepth 20000 in
theorem gX2_passWatch_X2_leakOf : GoodIn wsX2_passWatch (wsV RX2 91 RX2 yX2_leakOf wsX2_leakOf) := goodIn_app (goodIn_of _ (by decide +kernel)) ggX2_passWatch_X2_leakOf
set_option maxRecDepth 20000 in
theorem ggX2_passWatch_X3_setWater : GoodIn wsX2_passWatch wsX3_setWater := goodIn_r _ [32, 12, 80, 81, 82, 83, 84, 85] (by decide +kernel) (by decide +kernel)
set_option maxRecDepth 20000 in
theorem gX2_passWatch_X3_setWater : GoodIn wsX2_passWatch (wsV RX2 101 RX3 yX3_setWater wsX3_setWater) := goodIn_app (goodIn_of _ (by decide +kernel)) ggX2_passWatch_X3_setWater
set_option maxRecDepth 20000 in
theorem ggX2_passWatch_X3_sink : GoodIn wsX2_passWatch wsX3_sink := goodIn_r _ [36, 37, 80, 81, 82, 83, 84, 85] (by decide +kernel) (by decide +kernel)
set_option maxRecDepth 20000 in
theorem gX2_passWatch_X3_sink : GoodIn wsX2_passWatch (wsV RX2 105 RX3 yX3_sink wsX3_sink) := goodIn_app (goodIn_of _ (by decide +kernel)) ggX2_passWatch_X3_sink
set_option maxRecDepth 20000 in
theorem ggX2_passWatch_X2_letWormsEat : GoodIn wsX2_passWatch wsX2_letWormsEat := goodIn_r _ [41, 18, 42, 43, 44, 10, 45, 23, 46, 47, 48, 49, 50, 51, 52, 53, 54, 55, 56, 57, 58, 59, 73, 74, 75, 76, 77, 78, 79, 80, 81, 82, 83, 84, 85] (by decide +kernel) (by decide +kernel)
set_option maxRecDepth 20000 in
theorem gX2_passWatch_X2_letWormsEat : GoodIn wsX2_passWatch (wsV RX2 108 RX2 yX2_letWormsEat wsX2_letWormsEat) := goodIn_app (goodIn_of _ (by decide +kernel)) ggX2_passWatch_X2_letWormsEat
set_option maxRecDepth 20000 in
theorem ggX2_passWatch_X2_letComeDown : GoodIn wsX2_passWatch wsX2_letComeDown := goodIn_r _ [63, 18, 19, 20, 21, 10, 22, 23, 64, 65, 66, 16, 67, 68, 69, 70, 71, 72, 42, 43, 44, 45, 55, 56, 57, 58, 59, 73, 74, 75, 76, 77, 78, 79, 80, 81, 82, 83, 84, 85] (by decide +kernel) (by decide +kernel)
set_option maxRecDepth 20000 in
theorem gX2_passWatch_X2_letComeDown : GoodIn wsX2_passWatch (wsV RX2 112 RX2 yX2_letComeDown wsX2_letComeDown) := goodIn_app (goodIn_of _ (by decide +kernel)) ggX2_passWatch_X2_letComeDown
theorem dX2_passWatch_0 : decode cX2_passWatch 0 = .ok (.aload_n 1, 1) := by decide +kernel
theorem dX2_passWatch_1 : decode cX2_passWatch 1 = .ok (.iconst 0, 1) := by decide +kernel
theorem dX2_passWatch_2 : decode cX2_passWatch 2 = .ok (.aload_n 1, 1) := by decide +kernel
theorem dX2_passWatch_3 : decode cX2_passWatch 3 = .ok (.invokevirtual 88, 3) := by decide +kernel
theorem dX2_passWatch_6 : decode cX2_passWatch 6 = .ok (.aload_n 0, 1) := by decide +kernel
theorem dX2_passWatch_7 : decode cX2_passWatch 7 = .ok (.aload_n 1, 1) := by decide +kernel
theorem dX2_passWatch_8 : decode cX2_passWatch 8 = .ok (.invokevirtual 91, 3) := by decide +kernel
theorem dX2_passWatch_11 : decode cX2_passWatch 11 = .ok (.iadd, 1) := by decide +kernel
theorem dX2_passWatch_12 : decode cX2_passWatch 12 = .ok (.aload_n 0, 1) := by decide +kernel
theorem dX2_passWatch_13 : decode cX2_passWatch 13 = .ok (.getfield 28, 3) := by decide +kernel
theorem dX2_passWatch_16 : decode cX2_passWatch 16 = .ok (.isub, 1) := by decide +kernel
theorem dX2_passWatch_17 : decode cX2_passWatch 17 = .ok (.invokestatic 95, 3) := by decide +kernel
theorem dX2_passWatch_20 : decode cX2_passWatch 20 = .ok (.invokevirtual 101, 3) := by decide +kernel
theorem dX2_passWatch_23 : decode cX2_passWatch 23 = .ok (.aload_n 1, 1) := by decide +kernel
theorem dX2_passWatch_24 : decode cX2_passWatch 24 = .ok (.invokevirtual 88, 3) := by decide +kernel
theorem dX2_passWatch_27 : decode cX2_passWatch 27 = .ok (.aload_n 0, 1) := by decide +kernel
theorem dX2_passWatch_28 : decode cX2_passWatch 28 = .ok (.getfield 31, 3) := by decide +kernel
theorem dX2_passWatch_31 : decode cX2_passWatch 31 = .ok (.if_icmp .le 8, 3) := by decide +kernel
theorem dX2_passWatch_34 : decode cX2_passWatch 34 = .ok (.aload_n 1, 1) := by decide +kernel
theorem dX2_passWatch_35 : decode cX2_passWatch 35 = .ok (.invokevirtual 105, 3) := by decide +kernel
theorem dX2_passWatch_38 : decode cX2_passWatch 38 = .ok (.return_, 1) := by decide +kernel
theorem dX2_passWatch_39 : decode cX2_passWatch 39 = .ok (.aload_n 0, 1) := by decide +kernel
theorem dX2_passWatch_40 : decode cX2_passWatch 40 = .ok (.aload_n 1, 1) := by decide +kernel
theorem dX2_passWatch_41 : decode cX2_passWatch 41 = .ok (.invokevirtual 108, 3) := by decide +kernel
theorem dX2_passWatch_44 : decode cX2_passWatch 44 = .ok (.aload_n 0, 1) := by decide +kernel
theorem dX2_passWatch_45 : decode cX2_passWatch 45 = .ok (.aload_n 1, 1) := by decide +kernel
theorem dX2_passWatch_46 : decode cX2_passWatch 46 = .ok (.invokevirtual 112, 3) := by decide +kernel
theorem dX2_passWatch_49 : decode cX2_passWatch 49 = .ok (.return_, 1) := by decide +kernel
set_option maxRecDepth 20000 in
theorem ggX2_letWormsEat_X3_timberIn : GoodIn wsX2_letWormsEat wsX3_timberIn := goodIn_r _ [6, 7, 29, 30, 31, 32, 33, 34] (by decide +kernel) (by decide +kernel)
set_option maxRecDepth 20000 in
theorem gX2_letWormsEat_X3_timberIn : GoodIn wsX2_letWormsEat (wsV RX2 115 RX3 yX3_timberIn wsX3_timberIn) := goodIn_app (goodIn_of _ (by decide +kernel)) ggX2_letWormsEat_X3_timberIn
set_option maxRecDepth 20000 in
theorem ggX2_letWormsEat_X3_wormsIn : GoodIn wsX2_letWormsEat wsX3_wormsIn := goodIn_r _ [11, 12, 29, 30, 31, 32, 33, 34] (by decide +kernel) (by decide +kernel)
set_option maxRecDepth 20000 in
theorem gX2_letWormsEat_X3_wormsIn : GoodIn wsX2_letWormsEat (wsV RX2 118 RX3 yX3_wormsIn wsX3_wormsIn) := goodIn_app (goodIn_of _ (by decide +kernel)) ggX2_letWormsEat_X3_wormsIn
set_option maxRecDepth 20000 in
theorem ggX2_letWormsEat_X3_addWorm : GoodIn wsX2_letWormsEat wsX3_addWorm := goodIn_r _ [16, 12, 29, 30, 31, 32, 33, 34] (by decide +kernel) (by decide +kernel)
set_option maxRecDepth 20000 in
theorem gX2_letWormsEat_X3_addWorm : GoodIn wsX2_letWormsEat (wsV RX2 121 RX3 yX3_addWorm wsX3_addWorm) := goodIn_app (goodIn_of _ (by decide +kernel)) ggX2_letWormsEat_X3_addWorm
set_option maxRecDepth 20000 in
theorem ggX2_letWormsEat_X3_bringTo : GoodIn wsX2_letWormsEat wsX3_bringTo := goodIn_r _ [20, 21, 7, 29, 30, 31, 32, 33, 34] (by decide +kernel) (by decide +kernel)
set_option maxRecDepth 20000 in
theorem gX2_letWormsEat_X3_bringTo : GoodIn wsX2_letWormsEat (wsV RX2 81 RX3 yX3_bringTo wsX3_bringTo) := goodIn_app (goodIn_of _ (by decide +kernel)) ggX2_letWormsEat_X3_bringTo
theorem dX2_letWormsEat_0 : decode cX2_letWormsEat 0 = .ok (.iconst 0, 1) := by decide +kernel
theorem dX2_letWormsEat_1 : decode cX2_letWormsEat 1 = .ok (.istore_n 2, 1) := by decide +kernel
theorem dX2_letWormsEat_2 : decode cX2_letWormsEat 2 = .ok (.iload_n 2, 1) := by decide +kernel
theorem dX2_letWormsEat_3 : decode cX2_letWormsEat 3 = .ok (.aload_n 0, 1) := by decide +kernel
theorem dX2_letWormsEat_4 : decode cX2_letWormsEat 4 = .ok (.getfield 24, 3) := by decide +kernel
theorem dX2_letWormsEat_7 : decode cX2_letWormsEat 7 = .ok (.if_icmp .ge 46, 3) := by decide +kernel
theorem dX2_letWormsEat_10 : decode cX2_letWormsEat 10 = .ok (.aload_n 1, 1) := by decide +kernel
theorem dX2_letWormsEat_11 : decode cX2_letWormsEat 11 = .ok (.iload_n 2, 1) := by decide +kernel
theorem dX2_letWormsEat_12 : decode cX2_letWormsEat 12 = .ok (.invokevirtual 115, 3) := by decide +kernel
theorem dX2_letWormsEat_15 : decode cX2_letWormsEat 15 = .ok (.istore_n 3, 1) := by decide +kernel
theorem dX2_letWormsEat_16 : decode cX2_letWormsEat 16 = .ok (.aload_n 1, 1) := by decide +kernel
theorem dX2_letWormsEat_17 : decode cX2_letWormsEat 17 = .ok (.iload_n 3, 1) := by decide +kernel
theorem dX2_letWormsEat_18 : decode cX2_letWormsEat 18 = .ok (.invokevirtual 118, 3) := by decide +kernel
theorem dX2_letWormsEat_21 : decode cX2_letWormsEat 21 = .ok (.ifCond .le 26, 3) := by decide +kernel
theorem dX2_letWormsEat_24 : decode cX2_letWormsEat 24 = .ok (.aload_n 1, 1) := by decide +kernel
theorem dX2_letWormsEat_25 : decode cX2_letWormsEat 25 = .ok (.iload_n 3, 1) := by decide +kernel
theorem dX2_letWormsEat_26 : decode cX2_letWormsEat 26 = .ok (.invokevirtual 121, 3) := by decide +kernel
theorem dX2_letWormsEat_29 : decode cX2_letWormsEat 29 = .ok (.aload_n 1, 1) := by decide +kernel
theorem dX2_letWormsEat_30 : decode cX2_letWormsEat 30 = .ok (.iload_n 3, 1) := by decide +kernel
theorem dX2_letWormsEat_31 : decode cX2_letWormsEat 31 = .ok (.invokevirtual 118, 3) := by decide +kernel
theorem dX2_letWormsEat_34 : decode cX2_letWormsEat 34 = .ok (.bipush 10, 2) := by decide +kernel
theorem dX2_letWormsEat_36 : decode cX2_letWormsEat 36 = .ok (.if_icmp .lt 11, 3) := by decide +kernel
theorem dX2_letWormsEat_39 : decode cX2_letWormsEat 39 = .ok (.aload_n 1, 1) := by decide +kernel
theorem dX2_letWormsEat_40 : decode cX2_letWormsEat 40 = .ok (.iload_n 3, 1) := by decide +kernel
theorem dX2_letWormsEat_41 : decode cX2_letWormsEat 41 = .ok (.sipush 200, 3) := by decide +kernel
theorem dX2_letWormsEat_44 : decode cX2_letWormsEat 44 = .ok (.invokevirtual 81, 3) := by decide +kernel
theorem dX2_letWormsEat_47 : decode cX2_letWormsEat 47 = .ok (.iinc 2 1, 3) := by decide +kernel
theorem dX2_letWormsEat_50 : decode cX2_letWormsEat 50 = .ok (.goto (-48), 3) := by decide +kernel
theorem dX2_letWormsEat_53 : decode cX2_letWormsEat 53 = .ok (.return_, 1) := by decide +kernel
set_option maxRecDepth 20000 in
theorem ggX2_letComeDown_X3_isOpen : GoodIn wsX2_letComeDown wsX3_isOpen := goodIn_r _ [6, 7, 34, 35, 36, 37, 38, 39] (by decide +kernel) (by decide +kernel)
set_option maxRecDepth 20000 in
theorem gX2_letComeDown_X3_isOpen : GoodIn wsX2_letComeDown (wsV RX2 54 RX3 yX3_isOpen wsX3_isOpen) := goodIn_app (goodIn_of _ (by decide +kernel)) ggX2_letComeDown_X3_isOpen
set_option maxRecDepth 20000 in
theorem ggX2_letComeDown_X2_hangsInAir : GoodIn wsX2_letComeDown wsX2_hangsInAir := goodIn_r _ [12, 13, 14, 15, 11, 16, 1, 17, 2, 3, 4, 5, 6, 7, 27, 28, 29, 30, 31, 32, 33, 34, 35, 36, 37, 38, 39] (by decide +kernel) (by decide +kernel)
set_option maxRecDepth 20000 in
theorem gX2_letComeDown_X2_hangsInAir : GoodIn wsX2_letComeDown (wsV RX2 124 RX2 yX2_hangsInAir wsX2_hangsInAir) := goodIn_app (goodIn_of _ (by decide +kernel)) ggX2_letComeDown_X2_hangsInAir
set_option maxRecDepth 20000 in
theorem ggX2_letComeDown_X3_timberIn : GoodIn wsX2_letComeDown wsX3_timberIn := goodIn_r _ [21, 7, 34, 35, 36, 37, 38, 39] (by decide +kernel) (by decide +kernel)
set_option maxRecDepth 20000 in
theorem gX2_letComeDown_X3_timberIn : GoodIn wsX2_letComeDown (wsV RX2 115 RX3 yX3_timberIn wsX3_timberIn) := goodIn_app (goodIn_of _ (by decide +kernel)) ggX2_letComeDown_X3_timberIn
set_option maxRecDepth 20000 in
theorem ggX2_letComeDown_X3_bringTo : GoodIn wsX2_letComeDown wsX3_bringTo := goodIn_r _ [25, 26, 7, 34, 35, 36, 37, 38, 39] (by decide +kernel) (by decide +kernel)
set_option maxRecDepth 20000 in
theorem gX2_letComeDown_X3_bringTo : GoodIn wsX2_letComeDown (wsV RX2 81 RX3 yX3_bringTo wsX3_bringTo) := goodIn_app (goodIn_of _ (by decide +kernel)) ggX2_letComeDown_X3_bringTo
theorem dX2_letComeDown_0 : decode cX2_letComeDown 0 = .ok (.iconst 0, 1) := by decide +kernel
theorem dX2_letComeDown_1 : decode cX2_letComeDown 1 = .ok (.istore_n 2, 1) := by decide +kernel
theorem dX2_letComeDown_2 : decode cX2_letComeDown 2 = .ok (.iload_n 2, 1) := by decide +kernel
theorem dX2_letComeDown_3 : decode cX2_letComeDown 3 = .ok (.aload_n 0, 1) := by decide +kernel
theorem dX2_letComeDown_4 : decode cX2_letComeDown 4 = .ok (.getfield 24, 3) := by decide +kernel
theorem dX2_letComeDown_7 : decode cX2_letComeDown 7 = .ok (.if_icmp .ge 37, 3) := by decide +kernel
theorem dX2_letComeDown_10 : decode cX2_letComeDown 10 = .ok (.aload_n 1, 1) := by decide +kernel
theorem dX2_letComeDown_11 : decode cX2_letComeDown 11 = .ok (.iload_n 2, 1) := by decide +kernel
theorem dX2_letComeDown_12 : decode cX2_letComeDown 12 = .ok (.invokevirtual 54, 3) := by decide +kernel
theorem dX2_letComeDown_15 : decode cX2_letComeDown 15 = .ok (.ifCond .ne 23, 3) := by decide +kernel
theorem dX2_letComeDown_18 : decode cX2_letComeDown 18 = .ok (.aload_n 0, 1) := by decide +kernel
theorem dX2_letComeDown_19 : decode cX2_letComeDown 19 = .ok (.iload_n 2, 1) := by decide +kernel
theorem dX2_letComeDown_20 : decode cX2_letComeDown 20 = .ok (.aload_n 1, 1) := by decide +kernel
theorem dX2_letComeDown_21 : decode cX2_letComeDown 21 = .ok (.invokevirtual 124, 3) := by decide +kernel
theorem dX2_letComeDown_24 : decode cX2_letComeDown 24 = .ok (.ifCond .eq 14, 3) := by decide +kernel
theorem dX2_letComeDown_27 : decode cX2_letComeDown 27 = .ok (.aload_n 1, 1) := by decide +kernel
theorem dX2_letComeDown_28 : decode cX2_letComeDown 28 = .ok (.aload_n 1, 1) := by decide +kernel
theorem dX2_letComeDown_29 : decode cX2_letComeDown 29 = .ok (.iload_n 2, 1) := by decide +kernel
theorem dX2_letComeDown_30 : decode cX2_letComeDown 30 = .ok (.invokevirtual 115, 3) := by decide +kernel
theorem dX2_letComeDown_33 : decode cX2_letComeDown 33 = .ok (.bipush 100, 2) := by decide +kernel
theorem dX2_letComeDown_35 : decode cX2_letComeDown 35 = .ok (.invokevirtual 81, 3) := by decide +kernel
theorem dX2_letComeDown_38 : decode cX2_letComeDown 38 = .ok (.iinc 2 1, 3) := by decide +kernel
theorem dX2_letComeDown_41 : decode cX2_letComeDown 41 = .ok (.goto (-39), 3) := by decide +kernel
theorem dX2_letComeDown_44 : decode cX2_letComeDown 44 = .ok (.return_, 1) := by decide +kernel
set_option maxRecDepth 20000 in
theorem ggX2_hangsInAir_X2_restsOn : GoodIn wsX2_hangsInAir wsX2_restsOn := goodIn_r _ [5, 6, 7, 14, 15, 16, 17, 18, 19, 20] (by decide +kernel) (by decide +kernel)
set_option maxRecDepth 20000 in
theorem gX2_hangsInAir_X2_restsOn : GoodIn wsX2_hangsInAir (wsV RX2 61 RX2 yX2_restsOn wsX2_restsOn) := goodIn_app (goodIn_of _ (by decide +kernel)) ggX2_hangsInAir_X2_restsOn
set_option maxRecDepth 20000 in
theorem ggX2_hangsInAir_X3_isOpen : GoodIn wsX2_hangsInAir wsX3_isOpen := goodIn_r _ [12, 13, 21, 22, 23, 24, 25, 26] (by decide +kernel) (by decide +kernel)
set_option maxRecDepth 20000 in
theorem gX2_hangsInAir_X3_isOpen : GoodIn wsX2_hangsInAir (wsV RX2 54 RX3 yX3_isOpen wsX3_isOpen) := goodIn_app (goodIn_of _ (by decide +kernel)) ggX2_hangsInAir_X3_isOpen
theorem dX2_hangsInAir_0 : decode cX2_hangsInAir 0 = .ok (.aload_n 0, 1) := by decide +kernel
theorem dX2_hangsInAir_1 : decode cX2_hangsInAir 1 = .ok (.iload_n 1, 1) := by decide +kernel
theorem dX2_hangsInAir_2 : decode cX2_hangsInAir 2 = .ok (.invokevirtual 61, 3) := by decide +kernel
theorem dX2_hangsInAir_5 : decode cX2_hangsInAir 5 = .ok (.bipush (-9), 2) := by decide +kernel
theorem dX2_hangsInAir_7 : decode cX2_hangsInAir 7 = .ok (.if_icmp .eq 19, 3) := by decide +kernel
theorem dX2_hangsInAir_10 : decode cX2_hangsInAir 10 = .ok (.aload_n 2, 1) := by decide +kernel
theorem dX2_hangsInAir_11 : decode cX2_hangsInAir 11 = .ok (.aload_n 0, 1) := by decide +kernel
theorem dX2_hangsInAir_12 : decode cX2_hangsInAir 12 = .ok (.iload_n 1, 1) := by decide +kernel
theorem dX2_hangsInAir_13 : decode cX2_hangsInAir 13 = .ok (.invokevirtual 61, 3) := by decide +kernel
theorem dX2_hangsInAir_16 : decode cX2_hangsInAir 16 = .ok (.invokevirtual 54, 3) := by decide +kernel
theorem dX2_hangsInAir_19 : decode cX2_hangsInAir 19 = .ok (.ifCond .eq 7, 3) := by decide +kernel
theorem dX2_hangsInAir_22 : decode cX2_hangsInAir 22 = .ok (.iconst 1, 1) := by decide +kernel
theorem dX2_hangsInAir_23 : decode cX2_hangsInAir 23 = .ok (.goto 4, 3) := by decide +kernel
theorem dX2_hangsInAir_26 : decode cX2_hangsInAir 26 = .ok (.iconst 0, 1) := by decide +kernel
theorem dX2_hangsInAir_27 : decode cX2_hangsInAir 27 = .ok (.ireturn, 1) := by decide +kernel
set_option maxRecDepth 20000 in
theorem ggX2_watchesAfloat_X3_isSunk : GoodIn wsX2_watchesAfloat wsX3_isSunk := goodIn_r _ [9, 10, 92, 93, 94, 95, 96, 97] (by decide +kernel) (by decide +kernel)
set_option maxRecDepth 20000 in
theorem gX2_watchesAfloat_X3_isSunk : GoodIn wsX2_watchesAfloat (wsV RX2 127 RX3 yX3_isSunk wsX3_isSunk) := goodIn_app (goodIn_of _ (by decide +kernel)) ggX2_watchesAfloat_X3_isSunk
set_option maxRecDepth 20000 in
theorem ggX2_watchesAfloat_X2_isAtRest : GoodIn wsX2_watchesAfloat wsX2_isAtRest := goodIn_r _ [15, 16, 17, 18, 19, 8, 20, 21, 22, 23, 24, 25, 26, 27, 28, 29, 30, 31, 32, 33, 14, 34, 35, 36, 37, 38, 39, 98, 99, 100, 101, 102, 103, 104, 92, 93, 94, 95, 96, 97] (by decide +kernel) (by decide +kernel)
set_option maxRecDepth 20000 in
theorem gX2_watchesAfloat_X2_isAtRest : GoodIn wsX2_watchesAfloat (wsV RX2 131 RX2 yX2_isAtRest wsX2_isAtRest) := goodIn_app (goodIn_of _ (by decide +kernel)) ggX2_watchesAfloat_X2_isAtRest
set_option maxRecDepth 20000 in
theorem ggX2_watchesAfloat_X2_watchesAtRest : GoodIn wsX2_watchesAfloat wsX2_watchesAtRest := goodIn_r _ [43, 44, 45, 46, 47, 48, 14, 49, 16, 27, 28, 29, 8, 30, 21, 50, 51, 52, 53, 54, 55, 56, 57, 58, 59, 98, 99, 100, 101, 102, 103, 104, 92, 93, 94, 95, 96, 97] (by decide +kernel) (by decide +kernel)
set_option maxRecDepth 20000 in
theorem gX2_watchesAfloat_X2_watchesAtRest : GoodIn wsX2_watchesAfloat (wsV RX2 135 RX2 yX2_watchesAtRest wsX2_watchesAtRest) := goodIn_app (goodIn_of _ (by decide +kernel)) ggX2_watchesAfloat_X2_watchesAtRest
set_option maxRecDepth 20000 in
theorem ggX2_watchesAfloat_X2_passWatch : GoodIn wsX2_watchesAfloat wsX2_passWatch := goodIn_r _ [63, 44, 64, 65, 3, 66, 45, 55, 56, 57, 8, 58, 59, 46, 47, 48, 14, 49, 16, 27, 28, 29, 30, 21, 50, 51, 52, 53, 54, 67, 68, 69, 70, 71, 72, 73, 74, 10, 75, 76, 77, 78, 17, 18, 19, 20, 22, 23, 24, 25, 26, 79, 80, 81, 82, 83, 84, 85, 86, 87, 88, 89, 90, 91, 31, 32, 33, 34, 35, 36, 37, 38, 39, 98, 99, 100, 101, 102, 103, 104, 92, 93, 94, 95, 96, 97] (by decide +kernel) (by decide +kernel)
set_option maxRecDepth 20000 in
theorem gX2_watchesAfloat_X2_passWatch : GoodIn wsX2_watchesAfloat (wsV RX2 141 RX2 yX2_passWatch wsX2_passWatch) := goodIn_app (goodIn_of _ (by decide +kernel)) ggX2_watchesAfloat_X2_passWatch
theorem dX2_watchesAfloat_0 : decode cX2_watchesAfloat 0 = .ok (.aload_n 1, 1) := by decide +kernel
theorem dX2_watchesAfloat_1 : decode cX2_watchesAfloat 1 = .ok (.invokevirtual 127, 3) := by decide +kernel
theorem dX2_watchesAfloat_4 : decode cX2_watchesAfloat 4 = .ok (.ifCond .eq 5, 3) := by decide +kernel
theorem dX2_watchesAfloat_7 : decode cX2_watchesAfloat 7 = .ok (.iconst 0, 1) := by decide +kernel
theorem dX2_watchesAfloat_8 : decode cX2_watchesAfloat 8 = .ok (.ireturn, 1) := by decide +kernel
theorem dX2_watchesAfloat_9 : decode cX2_watchesAfloat 9 = .ok (.iconst 0, 1) := by decide +kernel
theorem dX2_watchesAfloat_10 : decode cX2_watchesAfloat 10 = .ok (.istore_n 2, 1) := by decide +kernel
theorem dX2_watchesAfloat_11 : decode cX2_watchesAfloat 11 = .ok (.iload_n 2, 1) := by decide +kernel
theorem dX2_watchesAfloat_12 : decode cX2_watchesAfloat 12 = .ok (.bipush 99, 2) := by decide +kernel
theorem dX2_watchesAfloat_14 : decode cX2_watchesAfloat 14 = .ok (.if_icmp .ge 44, 3) := by decide +kernel
theorem dX2_watchesAfloat_17 : decode cX2_watchesAfloat 17 = .ok (.aload_n 0, 1) := by decide +kernel
theorem dX2_watchesAfloat_18 : decode cX2_watchesAfloat 18 = .ok (.aload_n 1, 1) := by decide +kernel
theorem dX2_watchesAfloat_19 : decode cX2_watchesAfloat 19 = .ok (.invokevirtual 131, 3) := by decide +kernel
theorem dX2_watchesAfloat_22 : decode cX2_watchesAfloat 22 = .ok (.ifCond .eq 16, 3) := by decide +kernel
theorem dX2_watchesAfloat_25 : decode cX2_watchesAfloat 25 = .ok (.bipush 99, 2) := by decide +kernel
theorem dX2_watchesAfloat_27 : decode cX2_watchesAfloat 27 = .ok (.iload_n 2, 1) := by decide +kernel
theorem dX2_watchesAfloat_28 : decode cX2_watchesAfloat 28 = .ok (.aload_n 0, 1) := by decide +kernel
theorem dX2_watchesAfloat_29 : decode cX2_watchesAfloat 29 = .ok (.aload_n 1, 1) := by decide +kernel
theorem dX2_watchesAfloat_30 : decode cX2_watchesAfloat 30 = .ok (.invokevirtual 135, 3) := by decide +kernel
theorem dX2_watchesAfloat_33 : decode cX2_watchesAfloat 33 = .ok (.iadd, 1) := by decide +kernel
theorem dX2_watchesAfloat_34 : decode cX2_watchesAfloat 34 = .ok (.invokestatic 138, 3) := by decide +kernel
theorem dX2_watchesAfloat_37 : decode cX2_watchesAfloat 37 = .ok (.ireturn, 1) := by decide +kernel
theorem dX2_watchesAfloat_38 : decode cX2_watchesAfloat 38 = .ok (.aload_n 0, 1) := by decide +kernel
theorem dX2_watchesAfloat_39 : decode cX2_watchesAfloat 39 = .ok (.aload_n 1, 1) := by decide +kernel
theorem dX2_watchesAfloat_40 : decode cX2_watchesAfloat 40 = .ok (.invokevirtual 141, 3) := by decide +kernel
theorem dX2_watchesAfloat_43 : decode cX2_watchesAfloat 43 = .ok (.aload_n 1, 1) := by decide +kernel
theorem dX2_watchesAfloat_44 : decode cX2_watchesAfloat 44 = .ok (.invokevirtual 127, 3) := by decide +kernel
theorem dX2_watchesAfloat_47 : decode cX2_watchesAfloat 47 = .ok (.ifCond .eq 5, 3) := by decide +kernel
theorem dX2_watchesAfloat_50 : decode cX2_watchesAfloat 50 = .ok (.iload_n 2, 1) := by decide +kernel
theorem dX2_watchesAfloat_51 : decode cX2_watchesAfloat 51 = .ok (.ireturn, 1) := by decide +kernel
theorem dX2_watchesAfloat_52 : decode cX2_watchesAfloat 52 = .ok (.iinc 2 1, 3) := by decide +kernel
theorem dX2_watchesAfloat_55 : decode cX2_watchesAfloat 55 = .ok (.goto (-44), 3) := by decide +kernel
theorem dX2_watchesAfloat_58 : decode cX2_watchesAfloat 58 = .ok (.bipush 99, 2) := by decide +kernel
theorem dX2_watchesAfloat_60 : decode cX2_watchesAfloat 60 = .ok (.ireturn, 1) := by decide +kernel
set_option maxRecDepth 20000 in
theorem ggX2_isAtRest_X3_timberIn : GoodIn wsX2_isAtRest wsX3_timberIn := goodIn_r _ [6, 7, 34, 35, 36, 37, 38, 39] (by decide +kernel) (by decide +kernel)
set_option maxRecDepth 20000 in
theorem gX2_isAtRest_X3_timberIn : GoodIn wsX2_isAtRest (wsV RX2 115 RX3 yX3_timberIn wsX3_timberIn) := goodIn_app (goodIn_of _ (by decide +kernel)) ggX2_isAtRest_X3_timberIn
set_option maxRecDepth 20000 in
theorem ggX2_isAtRest_X3_wormsIn : GoodIn wsX2_isAtRest wsX3_wormsIn := goodIn_r _ [11, 12, 34, 35, 36, 37, 38, 39] (by decide +kernel) (by decide +kernel)
set_option maxRecDepth 20000 in
theorem gX2_isAtRest_X3_wormsIn : GoodIn wsX2_isAtRest (wsV RX2 118 RX3 yX3_wormsIn wsX3_wormsIn) := goodIn_app (goodIn_of _ (by decide +kernel)) ggX2_isAtRest_X3_wormsIn
set_option maxRecDepth 20000 in
theorem ggX2_isAtRest_X3_isOpen : GoodIn wsX2_isAtRest wsX3_isOpen := goodIn_r _ [16, 7, 34, 35, 36, 37, 38, 39] (by decide +kernel) (by decide +kernel)
set_option maxRecDepth 20000 in
theorem gX2_isAtRest_X3_isOpen : GoodIn wsX2_isAtRest (wsV RX2 54 RX3 yX3_isOpen wsX3_isOpen) := goodIn_app (goodIn_of _ (by decide +kernel)) ggX2_isAtRest_X3_isOpen
set_option maxRecDepth 20000 in
theorem ggX2_isAtRest_X2_hangsInAir : GoodIn wsX2_isAtRest wsX2_hangsInAir := goodIn_r _ [21, 22, 23, 24, 20, 25, 1, 26, 13, 14, 15, 5, 16, 7, 27, 28, 29, 30, 31, 32, 33, 34, 35, 36, 37, 38, 39] (by decide +kernel) (by decide +kernel)
set_option maxRecDepth 20000 in
theorem gX2_isAtRest_X2_hangsInAir : GoodIn wsX2_isAtRest (wsV RX2 124 RX2 yX2_hangsInAir wsX2_hangsInAir) := goodIn_app (goodIn_of _ (by decide +kernel)) ggX2_isAtRest_X2_hangsInAir
theorem dX2_isAtRest_0 : decode cX2_isAtRest 0 = .ok (.iconst 0, 1) := by decide +kernel
theorem dX2_isAtRest_1 : decode cX2_isAtRest 1 = .ok (.istore_n 2, 1) := by decide +kernel
theorem dX2_isAtRest_2 : decode cX2_isAtRest 2 = .ok (.iload_n 2, 1) := by decide +kernel
theorem dX2_isAtRest_3 : decode cX2_isAtRest 3 = .ok (.aload_n 0, 1) := by decide +kernel
theorem dX2_isAtRest_4 : decode cX2_isAtRest 4 = .ok (.getfield 24, 3) := by decide +kernel
theorem dX2_isAtRest_7 : decode cX2_isAtRest 7 = .ok (.if_icmp .ge 40, 3) := by decide +kernel
theorem dX2_isAtRest_10 : decode cX2_isAtRest 10 = .ok (.aload_n 1, 1) := by decide +kernel
theorem dX2_isAtRest_11 : decode cX2_isAtRest 11 = .ok (.aload_n 1, 1) := by decide +kernel
theorem dX2_isAtRest_12 : decode cX2_isAtRest 12 = .ok (.iload_n 2, 1) := by decide +kernel
theorem dX2_isAtRest_13 : decode cX2_isAtRest 13 = .ok (.invokevirtual 115, 3) := by decide +kernel
theorem dX2_isAtRest_16 : decode cX2_isAtRest 16 = .ok (.invokevirtual 118, 3) := by decide +kernel
theorem dX2_isAtRest_19 : decode cX2_isAtRest 19 = .ok (.ifCond .gt 20, 3) := by decide +kernel
theorem dX2_isAtRest_22 : decode cX2_isAtRest 22 = .ok (.aload_n 1, 1) := by decide +kernel
theorem dX2_isAtRest_23 : decode cX2_isAtRest 23 = .ok (.iload_n 2, 1) := by decide +kernel
theorem dX2_isAtRest_24 : decode cX2_isAtRest 24 = .ok (.invokevirtual 54, 3) := by decide +kernel
theorem dX2_isAtRest_27 : decode cX2_isAtRest 27 = .ok (.ifCond .ne 14, 3) := by decide +kernel
theorem dX2_isAtRest_30 : decode cX2_isAtRest 30 = .ok (.aload_n 0, 1) := by decide +kernel
theorem dX2_isAtRest_31 : decode cX2_isAtRest 31 = .ok (.iload_n 2, 1) := by decide +kernel
theorem dX2_isAtRest_32 : decode cX2_isAtRest 32 = .ok (.aload_n 1, 1) := by decide +kernel
theorem dX2_isAtRest_33 : decode cX2_isAtRest 33 = .ok (.invokevirtual 124, 3) := by decide +kernel
theorem dX2_isAtRest_36 : decode cX2_isAtRest 36 = .ok (.ifCond .eq 5, 3) := by decide +kernel
theorem dX2_isAtRest_39 : decode cX2_isAtRest 39 = .ok (.iconst 0, 1) := by decide +kernel
theorem dX2_isAtRest_40 : decode cX2_isAtRest 40 = .ok (.ireturn, 1) := by decide +kernel
theorem dX2_isAtRest_41 : decode cX2_isAtRest 41 = .ok (.iinc 2 1, 3) := by decide +kernel
theorem dX2_isAtRest_44 : decode cX2_isAtRest 44 = .ok (.goto (-42), 3) := by decide +kernel
theorem dX2_isAtRest_47 : decode cX2_isAtRest 47 = .ok (.iconst 1, 1) := by decide +kernel
theorem dX2_isAtRest_48 : decode cX2_isAtRest 48 = .ok (.ireturn, 1) := by decide +kernel
set_option maxRecDepth 20000 in
theorem ggX2_watchesAtRest_X2_leakOf : GoodIn wsX2_watchesAtRest wsX2_leakOf := goodIn_r _ [7, 8, 9, 10, 11, 12, 13, 14, 15, 16, 17, 6, 18, 19, 25, 26, 27, 28, 29, 30, 31, 32, 33, 34, 35, 36, 37] (by decide +kernel) (by decide +kernel)
set_option maxRecDepth 20000 in
theorem gX2_watchesAtRest_X2_leakOf : GoodIn wsX2_watchesAtRest (wsV RX2 91 RX2 yX2_leakOf wsX2_leakOf) := goodIn_app (goodIn_of _ (by decide +kernel)) ggX2_watchesAtRest_X2_leakOf
set_option maxRecDepth 20000 in
theorem ggX2_watchesAtRest_X3_waterInside : GoodIn wsX2_watchesAtRest wsX3_waterInside := goodIn_r _ [23, 24, 32, 33, 34, 35, 36, 37] (by decide +kernel) (by decide +kernel)
set_option maxRecDepth 20000 in
theorem gX2_watchesAtRest_X3_waterInside : GoodIn wsX2_watchesAtRest (wsV RX2 88 RX3 yX3_waterInside wsX3_waterInside) := goodIn_app (goodIn_of _ (by decide +kernel)) ggX2_watchesAtRest_X3_waterInside
theorem dX2_watchesAtRest_0 : decode cX2_watchesAtRest 0 = .ok (.aload_n 0, 1) := by decide +kernel
theorem dX2_watchesAtRest_1 : decode cX2_watchesAtRest 1 = .ok (.aload_n 1, 1) := by decide +kernel
theorem dX2_watchesAtRest_2 : decode cX2_watchesAtRest 2 = .ok (.invokevirtual 91, 3) := by decide +kernel
theorem dX2_watchesAtRest_5 : decode cX2_watchesAtRest 5 = .ok (.aload_n 0, 1) := by decide +kernel
theorem dX2_watchesAtRest_6 : decode cX2_watchesAtRest 6 = .ok (.getfield 28, 3) := by decide +kernel
theorem dX2_watchesAtRest_9 : decode cX2_watchesAtRest 9 = .ok (.isub, 1) := by decide +kernel
theorem dX2_watchesAtRest_10 : decode cX2_watchesAtRest 10 = .ok (.istore_n 2, 1) := by decide +kernel
theorem dX2_watchesAtRest_11 : decode cX2_watchesAtRest 11 = .ok (.iload_n 2, 1) := by decide +kernel
theorem dX2_watchesAtRest_12 : decode cX2_watchesAtRest 12 = .ok (.ifCond .le 17, 3) := by decide +kernel
theorem dX2_watchesAtRest_15 : decode cX2_watchesAtRest 15 = .ok (.aload_n 0, 1) := by decide +kernel
theorem dX2_watchesAtRest_16 : decode cX2_watchesAtRest 16 = .ok (.getfield 31, 3) := by decide +kernel
theorem dX2_watchesAtRest_19 : decode cX2_watchesAtRest 19 = .ok (.aload_n 1, 1) := by decide +kernel
theorem dX2_watchesAtRest_20 : decode cX2_watchesAtRest 20 = .ok (.invokevirtual 88, 3) := by decide +kernel
theorem dX2_watchesAtRest_23 : decode cX2_watchesAtRest 23 = .ok (.isub, 1) := by decide +kernel
theorem dX2_watchesAtRest_24 : decode cX2_watchesAtRest 24 = .ok (.iload_n 2, 1) := by decide +kernel
theorem dX2_watchesAtRest_25 : decode cX2_watchesAtRest 25 = .ok (.idiv, 1) := by decide +kernel
theorem dX2_watchesAtRest_26 : decode cX2_watchesAtRest 26 = .ok (.goto 5, 3) := by decide +kernel
theorem dX2_watchesAtRest_29 : decode cX2_watchesAtRest 29 = .ok (.bipush 99, 2) := by decide +kernel
theorem dX2_watchesAtRest_31 : decode cX2_watchesAtRest 31 = .ok (.ireturn, 1) := by decide +kernel
