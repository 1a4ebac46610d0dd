theorem dX9_share_12 : decode cX9_share 12 = .ok (.iconst (-1), 1) := by decide +kernel
theorem dX9_share_13 : decode cX9_share 13 = .ok (.ireturn, 1) := by decide +kernel
theorem dX9_share_14 : decode cX9_share 14 = .ok (.iconst 0, 1) := by decide +kernel
theorem dX9_share_15 : decode cX9_share 15 = .ok (.istore_n 3, 1) := by decide +kernel
theorem dX9_share_16 : decode cX9_share 16 = .ok (.iconst 0, 1) := by decide +kernel
theorem dX9_share_17 : decode cX9_share 17 = .ok (.istore 4, 2) := by decide +kernel
theorem dX9_share_19 : decode cX9_share 19 = .ok (.iconst 0, 1) := by decide +kernel
theorem dX9_share_20 : decode cX9_share 20 = .ok (.istore 5, 2) := by decide +kernel
theorem dX9_share_22 : decode cX9_share 22 = .ok (.iload 5, 2) := by decide +kernel
theorem dX9_share_24 : decode cX9_share 24 = .ok (.aload_n 0, 1) := by decide +kernel
theorem dX9_share_25 : decode cX9_share 25 = .ok (.getfield 114, 3) := by decide +kernel
theorem dX9_share_28 : decode cX9_share 28 = .ok (.if_icmp .ge 74, 3) := by decide +kernel
theorem dX9_share_31 : decode cX9_share 31 = .ok (.iload 4, 2) := by decide +kernel
theorem dX9_share_33 : decode cX9_share 33 = .ok (.aload_n 0, 1) := by decide +kernel
theorem dX9_share_34 : decode cX9_share 34 = .ok (.getfield 40, 3) := by decide +kernel
theorem dX9_share_37 : decode cX9_share 37 = .ok (.iload 5, 2) := by decide +kernel
theorem dX9_share_39 : decode cX9_share 39 = .ok (.iaload, 1) := by decide +kernel
theorem dX9_share_40 : decode cX9_share 40 = .ok (.bipush 100, 2) := by decide +kernel
theorem dX9_share_42 : decode cX9_share 42 = .ok (.if_icmp .ge 13, 3) := by decide +kernel
theorem dX9_share_45 : decode cX9_share 45 = .ok (.aload_n 0, 1) := by decide +kernel
theorem dX9_share_46 : decode cX9_share 46 = .ok (.getfield 43, 3) := by decide +kernel
theorem dX9_share_49 : decode cX9_share 49 = .ok (.iload 5, 2) := by decide +kernel
theorem dX9_share_51 : decode cX9_share 51 = .ok (.iaload, 1) := by decide +kernel
theorem dX9_share_52 : decode cX9_share 52 = .ok (.goto 4, 3) := by decide +kernel
theorem dX9_share_55 : decode cX9_share 55 = .ok (.iconst 0, 1) := by decide +kernel
theorem dX9_share_56 : decode cX9_share 56 = .ok (.iadd, 1) := by decide +kernel
theorem dX9_share_57 : decode cX9_share 57 = .ok (.istore 4, 2) := by decide +kernel
theorem dX9_share_59 : decode cX9_share 59 = .ok (.iload_n 3, 1) := by decide +kernel
theorem dX9_share_60 : decode cX9_share 60 = .ok (.aload_n 0, 1) := by decide +kernel
theorem dX9_share_61 : decode cX9_share 61 = .ok (.getfield 40, 3) := by decide +kernel
theorem dX9_share_64 : decode cX9_share 64 = .ok (.iload 5, 2) := by decide +kernel
theorem dX9_share_66 : decode cX9_share 66 = .ok (.iaload, 1) := by decide +kernel
theorem dX9_share_67 : decode cX9_share 67 = .ok (.bipush 100, 2) := by decide +kernel
theorem dX9_share_69 : decode cX9_share 69 = .ok (.if_icmp .ge 24, 3) := by decide +kernel
theorem dX9_share_72 : decode cX9_share 72 = .ok (.aload_n 0, 1) := by decide +kernel
theorem dX9_share_73 : decode cX9_share 73 = .ok (.getfield 34, 3) := by decide +kernel
theorem dX9_share_76 : decode cX9_share 76 = .ok (.iload 5, 2) := by decide +kernel
theorem dX9_share_78 : decode cX9_share 78 = .ok (.iaload, 1) := by decide +kernel
theorem dX9_share_79 : decode cX9_share 79 = .ok (.iload_n 1, 1) := by decide +kernel
theorem dX9_share_80 : decode cX9_share 80 = .ok (.if_icmp .ne 13, 3) := by decide +kernel
theorem dX9_share_83 : decode cX9_share 83 = .ok (.aload_n 0, 1) := by decide +kernel
theorem dX9_share_84 : decode cX9_share 84 = .ok (.getfield 43, 3) := by decide +kernel
theorem dX9_share_87 : decode cX9_share 87 = .ok (.iload 5, 2) := by decide +kernel
theorem dX9_share_89 : decode cX9_share 89 = .ok (.iaload, 1) := by decide +kernel
theorem dX9_share_90 : decode cX9_share 90 = .ok (.goto 4, 3) := by decide +kernel
theorem dX9_share_93 : decode cX9_share 93 = .ok (.iconst 0, 1) := by decide +kernel
theorem dX9_share_94 : decode cX9_share 94 = .ok (.iadd, 1) := by decide +kernel
theorem dX9_share_95 : decode cX9_share 95 = .ok (.istore_n 3, 1) := by decide +kernel
theorem dX9_share_96 : decode cX9_share 96 = .ok (.iinc 5 1, 3) := by decide +kernel
theorem dX9_share_99 : decode cX9_share 99 = .ok (.goto (-77), 3) := by decide +kernel
theorem dX9_share_102 : decode cX9_share 102 = .ok (.iload 4, 2) := by decide +kernel
theorem dX9_share_104 : decode cX9_share 104 = .ok (.ifCond .ne 15, 3) := by decide +kernel
theorem dX9_share_107 : decode cX9_share 107 = .ok (.iload_n 2, 1) := by decide +kernel
theorem dX9_share_108 : decode cX9_share 108 = .ok (.ifCond .eq 7, 3) := by decide +kernel
theorem dX9_share_111 : decode cX9_share 111 = .ok (.iconst 0, 1) := by decide +kernel
theorem dX9_share_112 : decode cX9_share 112 = .ok (.goto 17, 3) := by decide +kernel
theorem dX9_share_115 : decode cX9_share 115 = .ok (.iconst 1, 1) := by decide +kernel
theorem dX9_share_116 : decode cX9_share 116 = .ok (.goto 13, 3) := by decide +kernel
theorem dX9_share_119 : decode cX9_share 119 = .ok (.iload_n 3, 1) := by decide +kernel
theorem dX9_share_120 : decode cX9_share 120 = .ok (.i2l, 1) := by decide +kernel
theorem dX9_share_121 : decode cX9_share 121 = .ok (.iload 4, 2) := by decide +kernel
theorem dX9_share_123 : decode cX9_share 123 = .ok (.i2l, 1) := by decide +kernel
theorem dX9_share_124 : decode cX9_share 124 = .ok (.iload_n 2, 1) := by decide +kernel
theorem dX9_share_125 : decode cX9_share 125 = .ok (.invokestatic 204, 3) := by decide +kernel
theorem dX9_share_128 : decode cX9_share 128 = .ok (.l2i, 1) := by decide +kernel
theorem dX9_share_129 : decode cX9_share 129 = .ok (.ireturn, 1) := by decide +kernel
set_option maxRecDepth 20000 in
theorem ggX9_log_X9_in : GoodIn wsX9_log wsX9_in := goodIn_r _ [7] (by decide +kernel) (by decide +kernel)
set_option maxRecDepth 20000 in
theorem gX9_log_X9_in : GoodIn wsX9_log (va_wsS RX9 78 yX9_in wsX9_in) := goodIn_app (goodIn_of _ (by decide +kernel)) ggX9_log_X9_in
set_option maxRecDepth 20000 in
theorem ggX9_log_X9_copy : GoodIn wsX9_log wsX9_copy := goodIn_r _ [11, 12, 13, 14, 49, 50, 51, 52, 53, 54, 55, 56, 57, 58, 59, 60, 61, 62, 63, 64, 65, 66, 67, 68, 69, 70, 71, 72, 73, 74, 75, 76, 77, 78, 79, 80, 81, 82, 83] (by decide +kernel) (by decide +kernel)
set_option maxRecDepth 20000 in
theorem gX9_log_X9_copy : GoodIn wsX9_log (wsV RX9 162 RX9 yX9_copy wsX9_copy) := goodIn_app (goodIn_of _ (by decide +kernel)) ggX9_log_X9_copy
set_option maxRecDepth 20000 in
theorem ggX9_log_X9_goes : GoodIn wsX9_log wsX9_goes := goodIn_r _ [18, 12, 13, 19, 20, 21, 22, 6, 23, 24, 25, 26, 27, 2, 28, 29, 30, 31, 32, 33, 34, 35, 36, 49, 50, 51, 52, 53, 54, 55, 56, 57, 58, 59, 60, 61, 62, 63, 64, 65, 66, 67, 68, 69, 70, 71, 72, 73, 74, 75, 76, 77, 78, 79, 80, 81, 82, 83] (by decide +kernel) (by decide +kernel)
set_option maxRecDepth 20000 in
theorem gX9_log_X9_goes : GoodIn wsX9_log (wsV RX9 166 RX9 yX9_goes wsX9_goes) := goodIn_app (goodIn_of _ (by decide +kernel)) ggX9_log_X9_goes
set_option maxRecDepth 20000 in
theorem ggX9_log_X9_openSet : GoodIn wsX9_log wsX9_openSet := goodIn_r _ [40, 2, 24, 25, 26, 6, 27, 12, 49, 50, 51, 52, 53, 54, 55, 56, 57, 58, 59, 60, 61, 62, 63, 64, 65, 66, 67, 68, 69, 70, 71, 72, 73, 74, 75, 76, 77, 78, 79, 80, 81, 82, 83] (by decide +kernel) (by decide +kernel)
set_option maxRecDepth 20000 in
theorem gX9_log_X9_openSet : GoodIn wsX9_log (wsV RX9 148 RX9 yX9_openSet wsX9_openSet) := goodIn_app (goodIn_of _ (by decide +kernel)) ggX9_log_X9_openSet
set_option maxRecDepth 20000 in
theorem ggX9_log_X9_logFrom : GoodIn wsX9_log wsX9_logFrom := goodIn_r _ [44, 2, 8, 9, 10, 6, 11, 12, 13, 14, 15, 16, 17, 18, 19, 20, 21, 22, 23, 24, 25, 26, 27, 28, 29, 30, 31, 32, 33, 34, 35, 36, 37, 38, 39, 40, 45, 46, 47, 48, 49, 50, 51, 52, 53, 54, 55, 56, 57, 58, 59, 60, 61, 62, 63, 64, 65, 66, 67, 68, 69, 70, 71, 72, 73, 74, 75, 76, 77, 78, 79, 80, 81, 82, 83] (by decide +kernel) (by decide +kernel)
set_option maxRecDepth 20000 in
theorem gX9_log_X9_logFrom : GoodIn wsX9_log (wsV RX9 210 RX9 yX9_logFrom wsX9_logFrom) := goodIn_app (goodIn_of _ (by decide +kernel)) ggX9_log_X9_logFrom
theorem dX9_log_0 : decode cX9_log 0 = .ok (.iload_n 1, 1) := by decide +kernel
theorem dX9_log_1 : decode cX9_log 1 = .ok (.i2l, 1) := by decide +kernel
theorem dX9_log_2 : decode cX9_log 2 = .ok (.lconst 0, 1) := by decide +kernel
theorem dX9_log_3 : decode cX9_log 3 = .ok (.ldc2_w 208, 3) := by decide +kernel
theorem dX9_log_6 : decode cX9_log 6 = .ok (.invokestatic 78, 3) := by decide +kernel
theorem dX9_log_9 : decode cX9_log 9 = .ok (.ifCond .eq 21, 3) := by decide +kernel
theorem dX9_log_12 : decode cX9_log 12 = .ok (.iload_n 2, 1) := by decide +kernel
theorem dX9_log_13 : decode cX9_log 13 = .ok (.i2l, 1) := by decide +kernel
theorem dX9_log_14 : decode cX9_log 14 = .ok (.lconst 0, 1) := by decide +kernel
theorem dX9_log_15 : decode cX9_log 15 = .ok (.iconst 1, 1) := by decide +kernel
theorem dX9_log_16 : decode cX9_log 16 = .ok (.aload_n 0, 1) := by decide +kernel
theorem dX9_log_17 : decode cX9_log 17 = .ok (.getfield 114, 3) := by decide +kernel
theorem dX9_log_20 : decode cX9_log 20 = .ok (.ishl, 1) := by decide +kernel
theorem dX9_log_21 : decode cX9_log 21 = .ok (.iconst 1, 1) := by decide +kernel
theorem dX9_log_22 : decode cX9_log 22 = .ok (.isub, 1) := by decide +kernel
theorem dX9_log_23 : decode cX9_log 23 = .ok (.i2l, 1) := by decide +kernel
theorem dX9_log_24 : decode cX9_log 24 = .ok (.invokestatic 78, 3) := by decide +kernel
theorem dX9_log_27 : decode cX9_log 27 = .ok (.ifCond .ne 6, 3) := by decide +kernel
theorem dX9_log_30 : decode cX9_log 30 = .ok (.bipush (-2), 2) := by decide +kernel
theorem dX9_log_32 : decode cX9_log 32 = .ok (.ireturn, 1) := by decide +kernel
theorem dX9_log_33 : decode cX9_log 33 = .ok (.aload_n 0, 1) := by decide +kernel
theorem dX9_log_34 : decode cX9_log 34 = .ok (.getfield 123, 3) := by decide +kernel
theorem dX9_log_37 : decode cX9_log 37 = .ok (.ifCond .eq 6, 3) := by decide +kernel
theorem dX9_log_40 : decode cX9_log 40 = .ok (.bipush (-3), 2) := by decide +kernel
theorem dX9_log_42 : decode cX9_log 42 = .ok (.ireturn, 1) := by decide +kernel
theorem dX9_log_43 : decode cX9_log 43 = .ok (.iconst 0, 1) := by decide +kernel
theorem dX9_log_44 : decode cX9_log 44 = .ok (.istore_n 3, 1) := by decide +kernel
theorem dX9_log_45 : decode cX9_log 45 = .ok (.iconst 0, 1) := by decide +kernel
theorem dX9_log_46 : decode cX9_log 46 = .ok (.istore 4, 2) := by decide +kernel
theorem dX9_log_48 : decode cX9_log 48 = .ok (.iload 4, 2) := by decide +kernel
theorem dX9_log_50 : decode cX9_log 50 = .ok (.iload_n 1, 1) := by decide +kernel
theorem dX9_log_51 : decode cX9_log 51 = .ok (.ifCond .le 13, 3) := by decide +kernel
theorem dX9_log_54 : decode cX9_log 54 = .ok (.bipush 10, 2) := by decide +kernel
theorem dX9_log_56 : decode cX9_log 56 = .ok (.aload_n 0, 1) := by decide +kernel
theorem dX9_log_57 : decode cX9_log 57 = .ok (.getfield 114, 3) := by decide +kernel
theorem dX9_log_60 : decode cX9_log 60 = .ok (.imul, 1) := by decide +kernel
theorem dX9_log_61 : decode cX9_log 61 = .ok (.goto 4, 3) := by decide +kernel
theorem dX9_log_64 : decode cX9_log 64 = .ok (.iconst 1, 1) := by decide +kernel
theorem dX9_log_65 : decode cX9_log 65 = .ok (.if_icmp .ge 87, 3) := by decide +kernel
theorem dX9_log_68 : decode cX9_log 68 = .ok (.aload_n 0, 1) := by decide +kernel
theorem dX9_log_69 : decode cX9_log 69 = .ok (.iconst 0, 1) := by decide +kernel
theorem dX9_log_70 : decode cX9_log 70 = .ok (.bipush 10, 2) := by decide +kernel
theorem dX9_log_72 : decode cX9_log 72 = .ok (.invokevirtual 162, 3) := by decide +kernel
theorem dX9_log_75 : decode cX9_log 75 = .ok (.iload_n 1, 1) := by decide +kernel
theorem dX9_log_76 : decode cX9_log 76 = .ok (.ifCond .eq 34, 3) := by decide +kernel
theorem dX9_log_79 : decode cX9_log 79 = .ok (.iload 4, 2) := by decide +kernel
theorem dX9_log_81 : decode cX9_log 81 = .ok (.bipush 10, 2) := by decide +kernel
theorem dX9_log_83 : decode cX9_log 83 = .ok (.irem, 1) := by decide +kernel
theorem dX9_log_84 : decode cX9_log 84 = .ok (.aload_n 0, 1) := by decide +kernel
theorem dX9_log_85 : decode cX9_log 85 = .ok (.getfield 114, 3) := by decide +kernel
theorem dX9_log_88 : decode cX9_log 88 = .ok (.if_icmp .ge 58, 3) := by decide +kernel
theorem dX9_log_91 : decode cX9_log 91 = .ok (.aload_n 0, 1) := by decide +kernel
theorem dX9_log_92 : decode cX9_log 92 = .ok (.bipush 10, 2) := by decide +kernel
theorem dX9_log_94 : decode cX9_log 94 = .ok (.iload 4, 2) := by decide +kernel
theorem dX9_log_96 : decode cX9_log 96 = .ok (.bipush 10, 2) := by decide +kernel
theorem dX9_log_98 : decode cX9_log 98 = .ok (.idiv, 1) := by decide +kernel
theorem dX9_log_99 : decode cX9_log 99 = .ok (.iload 4, 2) := by decide +kernel
theorem dX9_log_101 : decode cX9_log 101 = .ok (.bipush 10, 2) := by decide +kernel
theorem dX9_log_103 : decode cX9_log 103 = .ok (.irem, 1) := by decide +kernel
theorem dX9_log_104 : decode cX9_log 104 = .ok (.invokevirtual 166, 3) := by decide +kernel
theorem dX9_log_107 : decode cX9_log 107 = .ok (.ifCond .eq 39, 3) := by decide +kernel
theorem dX9_log_110 : decode cX9_log 110 = .ok (.iload_n 3, 1) := by decide +kernel
theorem dX9_log_111 : decode cX9_log 111 = .ok (.iload_n 1, 1) := by decide +kernel
theorem dX9_log_112 : decode cX9_log 112 = .ok (.iconst 2, 1) := by decide +kernel
theorem dX9_log_113 : decode cX9_log 113 = .ok (.if_icmp .ge 21, 3) := by decide +kernel
theorem dX9_log_116 : decode cX9_log 116 = .ok (.aload_n 0, 1) := by decide +kernel
theorem dX9_log_117 : decode cX9_log 117 = .ok (.bipush 10, 2) := by decide +kernel
theorem dX9_log_119 : decode cX9_log 119 = .ok (.invokevirtual 148, 3) := by decide +kernel
theorem dX9_log_122 : decode cX9_log 122 = .ok (.iload_n 2, 1) := by decide +kernel
theorem dX9_log_123 : decode cX9_log 123 = .ok (.if_icmp .ne 7, 3) := by decide +kernel
theorem dX9_log_126 : decode cX9_log 126 = .ok (.iconst 1, 1) := by decide +kernel
theorem dX9_log_127 : decode cX9_log 127 = .ok (.goto 17, 3) := by decide +kernel
theorem dX9_log_130 : decode cX9_log 130 = .ok (.iconst 0, 1) := by decide +kernel
theorem dX9_log_131 : decode cX9_log 131 = .ok (.goto 13, 3) := by decide +kernel
theorem dX9_log_134 : decode cX9_log 134 = .ok (.aload_n 0, 1) := by decide +kernel
theorem dX9_log_135 : decode cX9_log 135 = .ok (.bipush 10, 2) := by decide +kernel
theorem dX9_log_137 : decode cX9_log 137 = .ok (.iload_n 1, 1) := by decide +kernel
theorem dX9_log_138 : decode cX9_log 138 = .ok (.iconst 1, 1) := by decide +kernel
theorem dX9_log_139 : decode cX9_log 139 = .ok (.isub, 1) := by decide +kernel
theorem dX9_log_140 : decode cX9_log 140 = .ok (.iload_n 2, 1) := by decide +kernel
theorem dX9_log_141 : decode cX9_log 141 = .ok (.invokevirtual 210, 3) := by decide +kernel
theorem dX9_log_144 : decode cX9_log 144 = .ok (.iadd, 1) := by decide +kernel
theorem dX9_log_145 : decode cX9_log 145 = .ok (.istore_n 3, 1) := by decide +kernel
theorem dX9_log_146 : decode cX9_log 146 = .ok (.iinc 4 1, 3) := by decide +kernel
theorem dX9_log_149 : decode cX9_log 149 = .ok (.goto (-101), 3) := by decide +kernel
theorem dX9_log_152 : decode cX9_log 152 = .ok (.iload_n 3, 1) := by decide +kernel
theorem dX9_log_153 : decode cX9_log 153 = .ok (.ireturn, 1) := by decide +kernel
set_option maxRecDepth 20000 in
theorem ggX9_logFrom_X9_copy : GoodIn wsX9_logFrom wsX9_copy := goodIn_r _ [6, 7, 8, 9, 40, 41, 42, 43, 44, 45, 46, 47, 48, 49, 50, 51, 52, 53, 54, 55, 56, 57, 58, 59, 60, 61, 62, 63, 64, 65, 66, 67, 68, 69, 70, 71, 72, 73, 74] (by decide +kernel) (by decide +kernel)
set_option maxRecDepth 20000 in
theorem gX9_logFrom_X9_copy : GoodIn wsX9_logFrom (wsV RX9 162 RX9 yX9_copy wsX9_copy) := goodIn_app (goodIn_of _ (by decide +kernel)) ggX9_logFrom_X9_copy
set_option maxRecDepth 20000 in
theorem ggX9_logFrom_X9_goes : GoodIn wsX9_logFrom wsX9_goes := goodIn_r _ [13, 7, 8, 14, 15, 16, 17, 5, 18, 19, 20, 21, 22, 1, 23, 24, 25, 26, 27, 28, 29, 30, 31, 40, 41, 42, 43, 44, 45, 46, 47, 48, 49, 50, 51, 52, 53, 54, 55, 56, 57, 58, 59, 60, 61, 62, 63, 64, 65, 66, 67, 68, 69, 70, 71, 72, 73, 74] (by decide +kernel) (by decide +kernel)
set_option maxRecDepth 20000 in
theorem gX9_logFrom_X9_goes : GoodIn wsX9_logFrom (wsV RX9 166 RX9 yX9_goes wsX9_goes) := goodIn_app (goodIn_of _ (by decide +kernel)) ggX9_logFrom_X9_goes
set_option maxRecDepth 20000 in
theorem ggX9_logFrom_X9_openSet : GoodIn wsX9_logFrom wsX9_openSet := goodIn_r _ [35, 1, 19, 20, 21, 5, 22, 7, 40, 41, 42, 43, 44, 45, 46, 47, 48, 49, 50, 51, 52, 53, 54, 55, 56, 57, 58, 59, 60, 61, 62, 63, 64, 65, 66, 67, 68, 69, 70, 71, 72, 73, 74] (by decide +kernel) (by decide +kernel)
set_option maxRecDepth 20000 in
theorem gX9_logFrom_X9_openSet : GoodIn wsX9_logFrom (wsV RX9 148 RX9 yX9_openSet wsX9_openSet) := goodIn_app (goodIn_of _ (by decide +kernel)) ggX9_logFrom_X9_openSet
set_option maxRecDepth 20000 in
theorem ggX9_logFrom_X9_logLast : GoodIn wsX9_logFrom wsX9_logLast := goodIn_r _ [39, 1, 2, 3, 4, 5, 6, 7, 8, 9, 10, 11, 12, 13, 14, 15, 16, 17, 18, 19, 20, 21, 22, 23, 24, 25, 26, 27, 28, 29, 30, 31, 32, 33, 34, 35, 40, 41, 42, 43, 44, 45, 46, 47, 48, 49, 50, 51, 52, 53, 54, 55, 56, 57, 58, 59, 60, 61, 62, 63, 64, 65, 66, 67, 68, 69, 70, 71, 72, 73, 74] (by decide +kernel) (by decide +kernel)
set_option maxRecDepth 20000 in
theorem gX9_logFrom_X9_logLast : GoodIn wsX9_logFrom (wsV RX9 214 RX9 yX9_logLast wsX9_logLast) := goodIn_app (goodIn_of _ (by decide +kernel)) ggX9_logFrom_X9_logLast
theorem dX9_logFrom_0 : decode cX9_logFrom 0 = .ok (.iconst 0, 1) := by decide +kernel
theorem dX9_logFrom_1 : decode cX9_logFrom 1 = .ok (.istore 4, 2) := by decide +kernel
theorem dX9_logFrom_3 : decode cX9_logFrom 3 = .ok (.iconst 0, 1) := by decide +kernel
theorem dX9_logFrom_4 : decode cX9_logFrom 4 = .ok (.istore 5, 2) := by decide +kernel
theorem dX9_logFrom_6 : decode cX9_logFrom 6 = .ok (.iload 5, 2) := by decide +kernel
theorem dX9_logFrom_8 : decode cX9_logFrom 8 = .ok (.bipush 10, 2) := by decide +kernel
theorem dX9_logFrom_10 : decode cX9_logFrom 10 = .ok (.aload_n 0, 1) := by decide +kernel
theorem dX9_logFrom_11 : decode cX9_logFrom 11 = .ok (.getfield 114, 3) := by decide +kernel
theorem dX9_logFrom_14 : decode cX9_logFrom 14 = .ok (.imul, 1) := by decide +kernel
theorem dX9_logFrom_15 : decode cX9_logFrom 15 = .ok (.if_icmp .ge 80, 3) := by decide +kernel
theorem dX9_logFrom_18 : decode cX9_logFrom 18 = .ok (.aload_n 0, 1) := by decide +kernel
theorem dX9_logFrom_19 : decode cX9_logFrom 19 = .ok (.iload_n 1, 1) := by decide +kernel
theorem dX9_logFrom_20 : decode cX9_logFrom 20 = .ok (.bipush 20, 2) := by decide +kernel
theorem dX9_logFrom_22 : decode cX9_logFrom 22 = .ok (.invokevirtual 162, 3) := by decide +kernel
theorem dX9_logFrom_25 : decode cX9_logFrom 25 = .ok (.iload 5, 2) := by decide +kernel
theorem dX9_logFrom_27 : decode cX9_logFrom 27 = .ok (.bipush 10, 2) := by decide +kernel
theorem dX9_logFrom_29 : decode cX9_logFrom 29 = .ok (.irem, 1) := by decide +kernel
theorem dX9_logFrom_30 : decode cX9_logFrom 30 = .ok (.aload_n 0, 1) := by decide +kernel
theorem dX9_logFrom_31 : decode cX9_logFrom 31 = .ok (.getfield 114, 3) := by decide +kernel
theorem dX9_logFrom_34 : decode cX9_logFrom 34 = .ok (.if_icmp .ge 55, 3) := by decide +kernel
theorem dX9_logFrom_37 : decode cX9_logFrom 37 = .ok (.aload_n 0, 1) := by decide +kernel
theorem dX9_logFrom_38 : decode cX9_logFrom 38 = .ok (.bipush 20, 2) := by decide +kernel
theorem dX9_logFrom_40 : decode cX9_logFrom 40 = .ok (.iload 5, 2) := by decide +kernel
theorem dX9_logFrom_42 : decode cX9_logFrom 42 = .ok (.bipush 10, 2) := by decide +kernel
theorem dX9_logFrom_44 : decode cX9_logFrom 44 = .ok (.idiv, 1) := by decide +kernel
theorem dX9_logFrom_45 : decode cX9_logFrom 45 = .ok (.iload 5, 2) := by decide +kernel
theorem dX9_logFrom_47 : decode cX9_logFrom 47 = .ok (.bipush 10, 2) := by decide +kernel
theorem dX9_logFrom_49 : decode cX9_logFrom 49 = .ok (.irem, 1) := by decide +kernel
theorem dX9_logFrom_50 : decode cX9_logFrom 50 = .ok (.invokevirtual 166, 3) := by decide +kernel
theorem dX9_logFrom_53 : decode cX9_logFrom 53 = .ok (.ifCond .eq 36, 3) := by decide +kernel
theorem dX9_logFrom_56 : decode cX9_logFrom 56 = .ok (.iload 4, 2) := by decide +kernel
theorem dX9_logFrom_58 : decode cX9_logFrom 58 = .ok (.iload_n 2, 1) := by decide +kernel
theorem dX9_logFrom_59 : decode cX9_logFrom 59 = .ok (.iconst 1, 1) := by decide +kernel
theorem dX9_logFrom_60 : decode cX9_logFrom 60 = .ok (.if_icmp .ne 21, 3) := by decide +kernel
theorem dX9_logFrom_63 : decode cX9_logFrom 63 = .ok (.aload_n 0, 1) := by decide +kernel
theorem dX9_logFrom_64 : decode cX9_logFrom 64 = .ok (.bipush 20, 2) := by decide +kernel
theorem dX9_logFrom_66 : decode cX9_logFrom 66 = .ok (.invokevirtual 148, 3) := by decide +kernel
theorem dX9_logFrom_69 : decode cX9_logFrom 69 = .ok (.iload_n 3, 1) := by decide +kernel
theorem dX9_logFrom_70 : decode cX9_logFrom 70 = .ok (.if_icmp .ne 7, 3) := by decide +kernel
theorem dX9_logFrom_73 : decode cX9_logFrom 73 = .ok (.iconst 1, 1) := by decide +kernel
theorem dX9_logFrom_74 : decode cX9_logFrom 74 = .ok (.goto 12, 3) := by decide +kernel
theorem dX9_logFrom_77 : decode cX9_logFrom 77 = .ok (.iconst 0, 1) := by decide +kernel
theorem dX9_logFrom_78 : decode cX9_logFrom 78 = .ok (.goto 8, 3) := by decide +kernel
theorem dX9_logFrom_81 : decode cX9_logFrom 81 = .ok (.aload_n 0, 1) := by decide +kernel
theorem dX9_logFrom_82 : decode cX9_logFrom 82 = .ok (.iload_n 3, 1) := by decide +kernel
theorem dX9_logFrom_83 : decode cX9_logFrom 83 = .ok (.invokevirtual 214, 3) := by decide +kernel
theorem dX9_logFrom_86 : decode cX9_logFrom 86 = .ok (.iadd, 1) := by decide +kernel
theorem dX9_logFrom_87 : decode cX9_logFrom 87 = .ok (.istore 4, 2) := by decide +kernel
theorem dX9_logFrom_89 : decode cX9_logFrom 89 = .ok (.iinc 5 1, 3) := by decide +kernel
theorem dX9_logFrom_92 : decode cX9_logFrom 92 = .ok (.goto (-86), 3) := by decide +kernel
theorem dX9_logFrom_95 : decode cX9_logFrom 95 = .ok (.iload 4, 2) := by decide +kernel
theorem dX9_logFrom_97 : decode cX9_logFrom 97 = .ok (.ireturn, 1) := by decide +kernel
set_option maxRecDepth 20000 in
theorem ggX9_logLast_X9_copy : GoodIn wsX9_logLast wsX9_copy := goodIn_r _ [6, 7, 8, 9, 36, 37, 38, 39, 40, 41, 42, 43, 44, 45, 46, 47, 48, 49, 50, 51, 52, 53, 54, 55, 56, 57, 58, 59, 60, 61, 62, 63, 64, 65, 66, 67, 68, 69, 70] (by decide +kernel) (by decide +kernel)
set_option maxRecDepth 20000 in
theorem gX9_logLast_X9_copy : GoodIn wsX9_logLast (wsV RX9 162 RX9 yX9_copy wsX9_copy) := goodIn_app (goodIn_of _ (by decide +kernel)) ggX9_logLast_X9_copy
set_option maxRecDepth 20000 in
theorem ggX9_logLast_X9_goes : GoodIn wsX9_logLast wsX9_goes := goodIn_r _ [13, 7, 8, 14, 15, 16, 17, 5, 18, 19, 20, 21, 22, 1, 23, 24, 25, 26, 27, 28, 29, 30, 31, 36, 37, 38, 39, 40, 41, 42, 43, 44, 45, 46, 47, 48, 49, 50, 51, 52, 53, 54, 55, 56, 57, 58, 59, 60, 61, 62, 63, 64, 65, 66, 67, 68, 69, 70] (by decide +kernel) (by decide +kernel)
set_option maxRecDepth 20000 in
theorem gX9_logLast_X9_goes : GoodIn wsX9_logLast (wsV RX9 166 RX9 yX9_goes wsX9_goes) := goodIn_app (goodIn_of _ (by decide +kernel)) ggX9_logLast_X9_goes
set_option maxRecDepth 20000 in
theorem ggX9_logLast_X9_openSet : GoodIn wsX9_logLast wsX9_openSet := goodIn_r _ [35, 1, 19, 20, 21, 5, 22, 7, 36, 37, 38, 39, 40, 41, 42, 43, 44, 45, 46, 47, 48, 49, 50, 51, 52, 53, 54, 55, 56, 57, 58, 59, 60, 61, 62, 63, 64, 65, 66, 67, 68, 69, 70] (by decide +kernel) (by decide +kernel)
set_option maxRecDepth 20000 in
theorem gX9_logLast_X9_openSet : GoodIn wsX9_logLast (wsV RX9 148 RX9 yX9_openSet wsX9_openSet) := goodIn_app (goodIn_of _ (by decide +kernel)) ggX9_logLast_X9_openSet
theorem dX9_logLast_0 : decode cX9_logLast 0 = .ok (.iconst 0, 1) := by decide +kernel
theorem dX9_logLast_1 : decode cX9_logLast 1 = .ok (.istore_n 2, 1) := by decide +kernel
theorem dX9_logLast_2 : decode cX9_logLast 2 = .ok (.iconst 0, 1) := by decide +kernel
theorem dX9_logLast_3 : decode cX9_logLast 3 = .ok (.istore_n 3, 1) := by decide +kernel
theorem dX9_logLast_4 : decode cX9_logLast 4 = .ok (.iload_n 3, 1) := by decide +kernel
theorem dX9_logLast_5 : decode cX9_logLast 5 = .ok (.bipush 10, 2) := by decide +kernel
theorem dX9_logLast_7 : decode cX9_logLast 7 = .ok (.aload_n 0, 1) := by decide +kernel
theorem dX9_logLast_8 : decode cX9_logLast 8 = .ok (.getfield 114, 3) := by decide +kernel
theorem dX9_logLast_11 : decode cX9_logLast 11 = .ok (.imul, 1) := by decide +kernel
theorem dX9_logLast_12 : decode cX9_logLast 12 = .ok (.if_icmp .ge 63, 3) := by decide +kernel
theorem dX9_logLast_15 : decode cX9_logLast 15 = .ok (.aload_n 0, 1) := by decide +kernel
theorem dX9_logLast_16 : decode cX9_logLast 16 = .ok (.bipush 20, 2) := by decide +kernel
theorem dX9_logLast_18 : decode cX9_logLast 18 = .ok (.bipush 30, 2) := by decide +kernel
theorem dX9_logLast_20 : decode cX9_logLast 20 = .ok (.invokevirtual 162, 3) := by decide +kernel
theorem dX9_logLast_23 : decode cX9_logLast 23 = .ok (.iload_n 2, 1) := by decide +kernel
theorem dX9_logLast_24 : decode cX9_logLast 24 = .ok (.iload_n 3, 1) := by decide +kernel
theorem dX9_logLast_25 : decode cX9_logLast 25 = .ok (.bipush 10, 2) := by decide +kernel
theorem dX9_logLast_27 : decode cX9_logLast 27 = .ok (.irem, 1) := by decide +kernel
theorem dX9_logLast_28 : decode cX9_logLast 28 = .ok (.aload_n 0, 1) := by decide +kernel
theorem dX9_logLast_29 : decode cX9_logLast 29 = .ok (.getfield 114, 3) := by decide +kernel
theorem dX9_logLast_32 : decode cX9_logLast 32 = .ok (.if_icmp .ge 34, 3) := by decide +kernel
theorem dX9_logLast_35 : decode cX9_logLast 35 = .ok (.aload_n 0, 1) := by decide +kernel
theorem dX9_logLast_36 : decode cX9_logLast 36 = .ok (.bipush 30, 2) := by decide +kernel
theorem dX9_logLast_38 : decode cX9_logLast 38 = .ok (.iload_n 3, 1) := by decide +kernel
theorem dX9_logLast_39 : decode cX9_logLast 39 = .ok (.bipush 10, 2) := by decide +kernel
theorem dX9_logLast_41 : decode cX9_logLast 41 = .ok (.idiv, 1) := by decide +kernel
theorem dX9_logLast_42 : decode cX9_logLast 42 = .ok (.iload_n 3, 1) := by decide +kernel
theorem dX9_logLast_43 : decode cX9_logLast 43 = .ok (.bipush 10, 2) := by decide +kernel
theorem dX9_logLast_45 : decode cX9_logLast 45 = .ok (.irem, 1) := by decide +kernel
theorem dX9_logLast_46 : decode cX9_logLast 46 = .ok (.invokevirtual 166, 3) := by decide +kernel
theorem dX9_logLast_49 : decode cX9_logLast 49 = .ok (.ifCond .eq 17, 3) := by decide +kernel
theorem dX9_logLast_52 : decode cX9_logLast 52 = .ok (.aload_n 0, 1) := by decide +kernel
theorem dX9_logLast_53 : decode cX9_logLast 53 = .ok (.bipush 30, 2) := by decide +kernel
theorem dX9_logLast_55 : decode cX9_logLast 55 = .ok (.invokevirtual 148, 3) := by decide +kernel
theorem dX9_logLast_58 : decode cX9_logLast 58 = .ok (.iload_n 1, 1) := by decide +kernel
theorem dX9_logLast_59 : decode cX9_logLast 59 = .ok (.if_icmp .ne 7, 3) := by decide +kernel
theorem dX9_logLast_62 : decode cX9_logLast 62 = .ok (.iconst 1, 1) := by decide +kernel
theorem dX9_logLast_63 : decode cX9_logLast 63 = .ok (.goto 4, 3) := by decide +kernel
theorem dX9_logLast_66 : decode cX9_logLast 66 = .ok (.iconst 0, 1) := by decide +kernel
theorem dX9_logLast_67 : decode cX9_logLast 67 = .ok (.iadd, 1) := by decide +kernel
theorem dX9_logLast_68 : decode cX9_logLast 68 = .ok (.istore_n 2, 1) := by decide +kernel
theorem dX9_logLast_69 : decode cX9_logLast 69 = .ok (.iinc 3 1, 3) := by decide +kernel
theorem dX9_logLast_72 : decode cX9_logLast 72 = .ok (.goto (-68), 3) := by decide +kernel
theorem dX9_logLast_75 : decode cX9_logLast 75 = .ok (.iload_n 2, 1) := by decide +kernel
theorem dX9_logLast_76 : decode cX9_logLast 76 = .ok (.ireturn, 1) := by decide +kernel
set_option maxRecDepth 20000 in
theorem ggX9_keep_X9_in : GoodIn wsX9_keep wsX9_in := goodIn_r _ [13] (by decide +kernel) (by decide +kernel)
set_option maxRecDepth 20000 in
theorem gX9_keep_X9_in : GoodIn wsX9_keep (va_wsS RX9 78 yX9_in wsX9_in) := goodIn_app (goodIn_of _ (by decide +kernel)) ggX9_keep_X9_in
theorem dX9_keep_0 : decode cX9_keep 0 = .ok (.iload_n 1, 1) := by decide +kernel
theorem dX9_keep_1 : decode cX9_keep 1 = .ok (.i2l, 1) := by decide +kernel
theorem dX9_keep_2 : decode cX9_keep 2 = .ok (.lconst 0, 1) := by decide +kernel
theorem dX9_keep_3 : decode cX9_keep 3 = .ok (.lconst 1, 1) := by decide +kernel
theorem dX9_keep_4 : decode cX9_keep 4 = .ok (.invokestatic 78, 3) := by decide +kernel
theorem dX9_keep_7 : decode cX9_keep 7 = .ok (.ifCond .ne 5, 3) := by decide +kernel
theorem dX9_keep_10 : decode cX9_keep 10 = .ok (.iconst (-1), 1) := by decide +kernel
theorem dX9_keep_11 : decode cX9_keep 11 = .ok (.ireturn, 1) := by decide +kernel
theorem dX9_keep_12 : decode cX9_keep 12 = .ok (.aload_n 0, 1) := by decide +kernel
theorem dX9_keep_13 : decode cX9_keep 13 = .ok (.getfield 59, 3) := by decide +kernel
theorem dX9_keep_16 : decode cX9_keep 16 = .ok (.iload_n 1, 1) := by decide +kernel
theorem dX9_keep_17 : decode cX9_keep 17 = .ok (.iconst 1, 1) := by decide +kernel
theorem dX9_keep_18 : decode cX9_keep 18 = .ok (.bastore, 1) := by decide +kernel
theorem dX9_keep_19 : decode cX9_keep 19 = .ok (.iconst 0, 1) := by decide +kernel
theorem dX9_keep_20 : decode cX9_keep 20 = .ok (.istore_n 2, 1) := by decide +kernel
theorem dX9_keep_21 : decode cX9_keep 21 = .ok (.iload_n 2, 1) := by decide +kernel
theorem dX9_keep_22 : decode cX9_keep 22 = .ok (.bipush 10, 2) := by decide +kernel
theorem dX9_keep_24 : decode cX9_keep 24 = .ok (.if_icmp .ge 66, 3) := by decide +kernel
theorem dX9_keep_27 : decode cX9_keep 27 = .ok (.aload_n 0, 1) := by decide +kernel
theorem dX9_keep_28 : decode cX9_keep 28 = .ok (.getfield 63, 3) := by decide +kernel
theorem dX9_keep_31 : decode cX9_keep 31 = .ok (.bipush 30, 2) := by decide +kernel
theorem dX9_keep_33 : decode cX9_keep 33 = .ok (.iload_n 1, 1) := by decide +kernel
theorem dX9_keep_34 : decode cX9_keep 34 = .ok (.imul, 1) := by decide +kernel
theorem dX9_keep_35 : decode cX9_keep 35 = .ok (.iload_n 2, 1) := by decide +kernel
theorem dX9_keep_36 : decode cX9_keep 36 = .ok (.iadd, 1) := by decide +kernel
theorem dX9_keep_37 : decode cX9_keep 37 = .ok (.aload_n 0, 1) := by decide +kernel
theorem dX9_keep_38 : decode cX9_keep 38 = .ok (.getfield 40, 3) := by decide +kernel
theorem dX9_keep_41 : decode cX9_keep 41 = .ok (.iload_n 2, 1) := by decide +kernel
theorem dX9_keep_42 : decode cX9_keep 42 = .ok (.iaload, 1) := by decide +kernel
theorem dX9_keep_43 : decode cX9_keep 43 = .ok (.iastore, 1) := by decide +kernel
theorem dX9_keep_44 : decode cX9_keep 44 = .ok (.aload_n 0, 1) := by decide +kernel
theorem dX9_keep_45 : decode cX9_keep 45 = .ok (.getfield 63, 3) := by decide +kernel
theorem dX9_keep_48 : decode cX9_keep 48 = .ok (.bipush 30, 2) := by decide +kernel
theorem dX9_keep_50 : decode cX9_keep 50 = .ok (.iload_n 1, 1) := by decide +kernel
theorem dX9_keep_51 : decode cX9_keep 51 = .ok (.imul, 1) := by decide +kernel
theorem dX9_keep_52 : decode cX9_keep 52 = .ok (.bipush 10, 2) := by decide +kernel
theorem dX9_keep_54 : decode cX9_keep 54 = .ok (.iadd, 1) := by decide +kernel
theorem dX9_keep_55 : decode cX9_keep 55 = .ok (.iload_n 2, 1) := by decide +kernel
theorem dX9_keep_56 : decode cX9_keep 56 = .ok (.iadd, 1) := by decide +kernel
theorem dX9_keep_57 : decode cX9_keep 57 = .ok (.aload_n 0, 1) := by decide +kernel
theorem dX9_keep_58 : decode cX9_keep 58 = .ok (.getfield 43, 3) := by decide +kernel
theorem dX9_keep_61 : decode cX9_keep 61 = .ok (.iload_n 2, 1) := by decide +kernel
theorem dX9_keep_62 : decode cX9_keep 62 = .ok (.iaload, 1) := by decide +kernel
theorem dX9_keep_63 : decode cX9_keep 63 = .ok (.iastore, 1) := by decide +kernel
theorem dX9_keep_64 : decode cX9_keep 64 = .ok (.aload_n 0, 1) := by decide +kernel
theorem dX9_keep_65 : decode cX9_keep 65 = .ok (.getfield 63, 3) := by decide +kernel
theorem dX9_keep_68 : decode cX9_keep 68 = .ok (.bipush 30, 2) := by decide +kernel
theorem dX9_keep_70 : decode cX9_keep 70 = .ok (.iload_n 1, 1) := by decide +kernel
theorem dX9_keep_71 : decode cX9_keep 71 = .ok (.imul, 1) := by decide +kernel
theorem dX9_keep_72 : decode cX9_keep 72 = .ok (.bipush 20, 2) := by decide +kernel
theorem dX9_keep_74 : decode cX9_keep 74 = .ok (.iadd, 1) := by decide +kernel
theorem dX9_keep_75 : decode cX9_keep 75 = .ok (.iload_n 2, 1) := by decide +kernel
theorem dX9_keep_76 : decode cX9_keep 76 = .ok (.iadd, 1) := by decide +kernel
theorem dX9_keep_77 : decode cX9_keep 77 = .ok (.aload_n 0, 1) := by decide +kernel
theorem dX9_keep_78 : decode cX9_keep 78 = .ok (.getfield 46, 3) := by decide +kernel
theorem dX9_keep_81 : decode cX9_keep 81 = .ok (.iload_n 2, 1) := by decide +kernel
theorem dX9_keep_82 : decode cX9_keep 82 = .ok (.iaload, 1) := by decide +kernel
theorem dX9_keep_83 : decode cX9_keep 83 = .ok (.iastore, 1) := by decide +kernel
theorem dX9_keep_84 : decode cX9_keep 84 = .ok (.iinc 2 1, 3) := by decide +kernel
theorem dX9_keep_87 : decode cX9_keep 87 = .ok (.goto (-66), 3) := by decide +kernel
theorem dX9_keep_90 : decode cX9_keep 90 = .ok (.aload_n 0, 1) := by decide +kernel
theorem dX9_keep_91 : decode cX9_keep 91 = .ok (.getfield 66, 3) := by decide +kernel
theorem dX9_keep_94 : decode cX9_keep 94 = .ok (.iload_n 1, 1) := by decide +kernel
theorem dX9_keep_95 : decode cX9_keep 95 = .ok (.aload_n 0, 1) := by decide +kernel
theorem dX9_keep_96 : decode cX9_keep 96 = .ok (.getfield 120, 3) := by decide +kernel
theorem dX9_keep_99 : decode cX9_keep 99 = .ok (.iastore, 1) := by decide +kernel
theorem dX9_keep_100 : decode cX9_keep 100 = .ok (.aload_n 0, 1) := by decide +kernel
theorem dX9_keep_101 : decode cX9_keep 101 = .ok (.getfield 69, 3) := by decide +kernel
theorem dX9_keep_104 : decode cX9_keep 104 = .ok (.iload_n 1, 1) := by decide +kernel
theorem dX9_keep_105 : decode cX9_keep 105 = .ok (.aload_n 0, 1) := by decide +kernel
theorem dX9_keep_106 : decode cX9_keep 106 = .ok (.getfield 123, 3) := by decide +kernel
theorem dX9_keep_109 : decode cX9_keep 109 = .ok (.bastore, 1) := by decide +kernel
theorem dX9_keep_110 : decode cX9_keep 110 = .ok (.aload_n 0, 1) := by decide +kernel
theorem dX9_keep_111 : decode cX9_keep 111 = .ok (.getfield 120, 3) := by decide +kernel
theorem dX9_keep_114 : decode cX9_keep 114 = .ok (.ireturn, 1) := by decide +kernel
set_option maxRecDepth 20000 in
theorem ggX9_again_X9_in : GoodIn wsX9_again wsX9_in := goodIn_r _ [14] (by decide +kernel) (by decide +kernel)
set_option maxRecDepth 20000 in
theorem gX9_again_X9_in : GoodIn wsX9_again (va_wsS RX9 78 yX9_in wsX9_in) := goodIn_app (goodIn_of _ (by decide +kernel)) ggX9_again_X9_in
theorem dX9_again_0 : decode cX9_again 0 = .ok (.iload_n 1, 1) := by decide +kernel
theorem dX9_again_1 : decode cX9_again 1 = .ok (.i2l, 1) := by decide +kernel
theorem dX9_again_2 : decode cX9_again 2 = .ok (.lconst 0, 1) := by decide +kernel
theorem dX9_again_3 : decode cX9_again 3 = .ok (.lconst 1, 1) := by decide +kernel
theorem dX9_again_4 : decode cX9_again 4 = .ok (.invokestatic 78, 3) := by decide +kernel
theorem dX9_again_7 : decode cX9_again 7 = .ok (.ifCond .ne 5, 3) := by decide +kernel
theorem dX9_again_10 : decode cX9_again 10 = .ok (.iconst (-1), 1) := by decide +kernel
theorem dX9_again_11 : decode cX9_again 11 = .ok (.ireturn, 1) := by decide +kernel
theorem dX9_again_12 : decode cX9_again 12 = .ok (.aload_n 0, 1) := by decide +kernel
theorem dX9_again_13 : decode cX9_again 13 = .ok (.getfield 59, 3) := by decide +kernel
theorem dX9_again_16 : decode cX9_again 16 = .ok (.iload_n 1, 1) := by decide +kernel
theorem dX9_again_17 : decode cX9_again 17 = .ok (.baload, 1) := by decide +kernel
theorem dX9_again_18 : decode cX9_again 18 = .ok (.ifCond .ne 6, 3) := by decide +kernel
theorem dX9_again_21 : decode cX9_again 21 = .ok (.bipush (-3), 2) := by decide +kernel
theorem dX9_again_23 : decode cX9_again 23 = .ok (.ireturn, 1) := by decide +kernel
theorem dX9_again_24 : decode cX9_again 24 = .ok (.iconst 0, 1) := by decide +kernel
theorem dX9_again_25 : decode cX9_again 25 = .ok (.istore_n 2, 1) := by decide +kernel
theorem dX9_again_26 : decode cX9_again 26 = .ok (.iload_n 2, 1) := by decide +kernel
theorem dX9_again_27 : decode cX9_again 27 = .ok (.bipush 10, 2) := by decide +kernel
theorem dX9_again_29 : decode cX9_again 29 = .ok (.if_icmp .ge 66, 3) := by decide +kernel
theorem dX9_again_32 : decode cX9_again 32 = .ok (.aload_n 0, 1) := by decide +kernel
theorem dX9_again_33 : decode cX9_again 33 = .ok (.getfield 40, 3) := by decide +kernel
theorem dX9_again_36 : decode cX9_again 36 = .ok (.iload_n 2, 1) := by decide +kernel
theorem dX9_again_37 : decode cX9_again 37 = .ok (.aload_n 0, 1) := by decide +kernel
theorem dX9_again_38 : decode cX9_again 38 = .ok (.getfield 63, 3) := by decide +kernel
theorem dX9_again_41 : decode cX9_again 41 = .ok (.bipush 30, 2) := by decide +kernel
theorem dX9_again_43 : decode cX9_again 43 = .ok (.iload_n 1, 1) := by decide +kernel
theorem dX9_again_44 : decode cX9_again 44 = .ok (.imul, 1) := by decide +kernel
theorem dX9_again_45 : decode cX9_again 45 = .ok (.iload_n 2, 1) := by decide +kernel
theorem dX9_again_46 : decode cX9_again 46 = .ok (.iadd, 1) := by decide +kernel
theorem dX9_again_47 : decode cX9_again 47 = .ok (.iaload, 1) := by decide +kernel
theorem dX9_again_48 : decode cX9_again 48 = .ok (.iastore, 1) := by decide +kernel
theorem dX9_again_49 : decode cX9_again 49 = .ok (.aload_n 0, 1) := by decide +kernel
theorem dX9_again_50 : decode cX9_again 50 = .ok (.getfield 43, 3) := by decide +kernel
theorem dX9_again_53 : decode cX9_again 53 = .ok (.iload_n 2, 1) := by decide +kernel
theorem dX9_again_54 : decode cX9_again 54 = .ok (.aload_n 0, 1) := by decide +kernel
theorem dX9_again_55 : decode cX9_again 55 = .ok (.getfield 63, 3) := by decide +kernel
theorem dX9_again_58 : decode cX9_again 58 = .ok (.bipush 30, 2) := by decide +kernel
theorem dX9_again_60 : decode cX9_again 60 = .ok (.iload_n 1, 1) := by decide +kernel
theorem dX9_again_61 : decode cX9_again 61 = .ok (.imul, 1) := by decide +kernel
theorem dX9_again_62 : decode cX9_again 62 = .ok (.bipush 10, 2) := by decide +kernel
theorem dX9_again_64 : decode cX9_again 64 = .ok (.iadd, 1) := by decide +kernel
theorem dX9_again_65 : decode cX9_again 65 = .ok (.iload_n 2, 1) := by decide +kernel
theorem dX9_again_66 : decode cX9_again 66 = .ok (.iadd, 1) := by decide +kernel
theorem dX9_again_67 : decode cX9_again 67 = .ok (.iaload, 1) := by decide +kernel
theorem dX9_again_68 : decode cX9_again 68 = .ok (.iastore, 1) := by decide +kernel
theorem dX9_again_69 : decode cX9_again 69 = .ok (.aload_n 0, 1) := by decide +kernel
theorem dX9_again_70 : decode cX9_again 70 = .ok (.getfield 46, 3) := by decide +kernel
theorem dX9_again_73 : decode cX9_again 73 = .ok (.iload_n 2, 1) := by decide +kernel
theorem dX9_again_74 : decode cX9_again 74 = .ok (.aload_n 0, 1) := by decide +kernel
theorem dX9_again_75 : decode cX9_again 75 = .ok (.getfield 63, 3) := by decide +kernel
theorem dX9_again_78 : decode cX9_again 78 = .ok (.bipush 30, 2) := by decide +kernel
theorem dX9_again_80 : decode cX9_again 80 = .ok (.iload_n 1, 1) := by decide +kernel
theorem dX9_again_81 : decode cX9_again 81 = .ok (.imul, 1) := by decide +kernel
theorem dX9_again_82 : decode cX9_again 82 = .ok (.bipush 20, 2) := by decide +kernel
theorem dX9_again_84 : decode cX9_again 84 = .ok (.iadd, 1) := by decide +kernel
theorem dX9_again_85 : decode cX9_again 85 = .ok (.iload_n 2, 1) := by decide +kernel
theorem dX9_again_86 : decode cX9_again 86 = .ok (.iadd, 1) := by decide +kernel
theorem dX9_again_87 : decode cX9_again 87 = .ok (.iaload, 1) := by decide +kernel
theorem dX9_again_88 : decode cX9_again 88 = .ok (.iastore, 1) := by decide +kernel
theorem dX9_again_89 : decode cX9_again 89 = .ok (.iinc 2 1, 3) := by decide +kernel
theorem dX9_again_92 : decode cX9_again 92 = .ok (.goto (-66), 3) := by decide +kernel
theorem dX9_again_95 : decode cX9_again 95 = .ok (.aload_n 0, 1) := by decide +kernel
theorem dX9_again_96 : decode cX9_again 96 = .ok (.aload_n 0, 1) := by decide +kernel
theorem dX9_again_97 : decode cX9_again 97 = .ok (.getfield 66, 3) := by decide +kernel
theorem dX9_again_100 : decode cX9_again 100 = .ok (.iload_n 1, 1) := by decide +kernel
theorem dX9_again_101 : decode cX9_again 101 = .ok (.iaload, 1) := by decide +kernel
theorem dX9_again_102 : decode cX9_again 102 = .ok (.putfield 120, 3) := by decide +kernel
theorem dX9_again_105 : decode cX9_again 105 = .ok (.aload_n 0, 1) := by decide +kernel
theorem dX9_again_106 : decode cX9_again 106 = .ok (.aload_n 0, 1) := by decide +kernel
theorem dX9_again_107 : decode cX9_again 107 = .ok (.getfield 69, 3) := by decide +kernel
theorem dX9_again_110 : decode cX9_again 110 = .ok (.iload_n 1, 1) := by decide +kernel
theorem dX9_again_111 : decode cX9_again 111 = .ok (.baload, 1) := by decide +kernel
theorem dX9_again_112 : decode cX9_again 112 = .ok (.putfield 123, 3) := by decide +kernel
theorem dX9_again_115 : decode cX9_again 115 = .ok (.aload_n 0, 1) := by decide +kernel
theorem dX9_again_116 : decode cX9_again 116 = .ok (.iconst 0, 1) := by decide +kernel
theorem dX9_again_117 : decode cX9_again 117 = .ok (.putfield 127, 3) := by decide +kernel
theorem dX9_again_120 : decode cX9_again 120 = .ok (.aload_n 0, 1) := by decide +kernel
theorem dX9_again_121 : decode cX9_again 121 = .ok (.getfield 120, 3) := by decide +kernel
theorem dX9_again_124 : decode cX9_again 124 = .ok (.ireturn, 1) := by decide +kernel
set_option maxRecDepth 20000 in
theorem ggX9_count_X9_inside : GoodIn wsX9_count wsX9_inside := goodIn_r _ [13, 1, 2, 14, 15, 16, 17, 18, 19, 20, 21, 22, 23, 24, 25, 26, 27, 28, 29, 30, 31, 32, 33, 34, 35, 36, 37, 38, 39, 40, 41, 42, 43, 44, 45, 46, 47, 48] (by decide +kernel) (by decide +kernel)
set_option maxRecDepth 20000 in
theorem gX9_count_X9_inside : GoodIn wsX9_count (wsV RX9 134 RX9 yX9_inside wsX9_inside) := goodIn_app (goodIn_of _ (by decide +kernel)) ggX9_count_X9_inside
theorem dX9_count_0 : decode cX9_count 0 = .ok (.iconst 0, 1) := by decide +kernel
theorem dX9_count_1 : decode cX9_count 1 = .ok (.istore_n 2, 1) := by decide +kernel
theorem dX9_count_2 : decode cX9_count 2 = .ok (.iconst 0, 1) := by decide +kernel
theorem dX9_count_3 : decode cX9_count 3 = .ok (.istore_n 3, 1) := by decide +kernel
theorem dX9_count_4 : decode cX9_count 4 = .ok (.iconst 0, 1) := by decide +kernel
theorem dX9_count_5 : decode cX9_count 5 = .ok (.istore 4, 2) := by decide +kernel
theorem dX9_count_7 : decode cX9_count 7 = .ok (.iconst 0, 1) := by decide +kernel
theorem dX9_count_8 : decode cX9_count 8 = .ok (.istore 5, 2) := by decide +kernel
theorem dX9_count_10 : decode cX9_count 10 = .ok (.iload 5, 2) := by decide +kernel
theorem dX9_count_12 : decode cX9_count 12 = .ok (.aload_n 0, 1) := by decide +kernel
theorem dX9_count_13 : decode cX9_count 13 = .ok (.getfield 114, 3) := by decide +kernel
theorem dX9_count_16 : decode cX9_count 16 = .ok (.if_icmp .ge 72, 3) := by decide +kernel
theorem dX9_count_19 : decode cX9_count 19 = .ok (.iload_n 2, 1) := by decide +kernel
theorem dX9_count_20 : decode cX9_count 20 = .ok (.aload_n 0, 1) := by decide +kernel
theorem dX9_count_21 : decode cX9_count 21 = .ok (.getfield 40, 3) := by decide +kernel
theorem dX9_count_24 : decode cX9_count 24 = .ok (.iload 5, 2) := by decide +kernel
theorem dX9_count_26 : decode cX9_count 26 = .ok (.iaload, 1) := by decide +kernel
theorem dX9_count_27 : decode cX9_count 27 = .ok (.bipush 100, 2) := by decide +kernel
theorem dX9_count_29 : decode cX9_count 29 = .ok (.if_icmp .ne 7, 3) := by decide +kernel
theorem dX9_count_32 : decode cX9_count 32 = .ok (.iconst 1, 1) := by decide +kernel
theorem dX9_count_33 : decode cX9_count 33 = .ok (.goto 4, 3) := by decide +kernel
theorem dX9_count_36 : decode cX9_count 36 = .ok (.iconst 0, 1) := by decide +kernel
theorem dX9_count_37 : decode cX9_count 37 = .ok (.iadd, 1) := by decide +kernel
theorem dX9_count_38 : decode cX9_count 38 = .ok (.istore_n 2, 1) := by decide +kernel
theorem dX9_count_39 : decode cX9_count 39 = .ok (.iload_n 3, 1) := by decide +kernel
theorem dX9_count_40 : decode cX9_count 40 = .ok (.aload_n 0, 1) := by decide +kernel
theorem dX9_count_41 : decode cX9_count 41 = .ok (.getfield 40, 3) := by decide +kernel
theorem dX9_count_44 : decode cX9_count 44 = .ok (.iload 5, 2) := by decide +kernel
theorem dX9_count_46 : decode cX9_count 46 = .ok (.iaload, 1) := by decide +kernel
theorem dX9_count_47 : decode cX9_count 47 = .ok (.sipush 200, 3) := by decide +kernel
theorem dX9_count_50 : decode cX9_count 50 = .ok (.if_icmp .ne 7, 3) := by decide +kernel
theorem dX9_count_53 : decode cX9_count 53 = .ok (.iconst 1, 1) := by decide +kernel
theorem dX9_count_54 : decode cX9_count 54 = .ok (.goto 4, 3) := by decide +kernel
theorem dX9_count_57 : decode cX9_count 57 = .ok (.iconst 0, 1) := by decide +kernel
theorem dX9_count_58 : decode cX9_count 58 = .ok (.iadd, 1) := by decide +kernel
theorem dX9_count_59 : decode cX9_count 59 = .ok (.istore_n 3, 1) := by decide +kernel
theorem dX9_count_60 : decode cX9_count 60 = .ok (.iload 4, 2) := by decide +kernel
theorem dX9_count_62 : decode cX9_count 62 = .ok (.aload_n 0, 1) := by decide +kernel
theorem dX9_count_63 : decode cX9_count 63 = .ok (.iconst 0, 1) := by decide +kernel
theorem dX9_count_64 : decode cX9_count 64 = .ok (.iload 5, 2) := by decide +kernel
theorem dX9_count_66 : decode cX9_count 66 = .ok (.invokevirtual 134, 3) := by decide +kernel
theorem dX9_count_69 : decode cX9_count 69 = .ok (.bipush (-9), 2) := by decide +kernel
theorem dX9_count_71 : decode cX9_count 71 = .ok (.if_icmp .ne 7, 3) := by decide +kernel
theorem dX9_count_74 : decode cX9_count 74 = .ok (.iconst 1, 1) := by decide +kernel
theorem dX9_count_75 : decode cX9_count 75 = .ok (.goto 4, 3) := by decide +kernel
theorem dX9_count_78 : decode cX9_count 78 = .ok (.iconst 0, 1) := by decide +kernel
theorem dX9_count_79 : decode cX9_count 79 = .ok (.iadd, 1) := by decide +kernel
theorem dX9_count_80 : decode cX9_count 80 = .ok (.istore 4, 2) := by decide +kernel
theorem dX9_count_82 : decode cX9_count 82 = .ok (.iinc 5 1, 3) := by decide +kernel
theorem dX9_count_85 : decode cX9_count 85 = .ok (.goto (-75), 3) := by decide +kernel
theorem dX9_count_88 : decode cX9_count 88 = .ok (.iload_n 1, 1) := by decide +kernel
theorem dX9_count_89 : decode cX9_count 89 = .ok (.tableswitch 105 0 9 #[55, 60, 65, 68, 70, 72, 77, 90, 95, 100], 55) := by decide +kernel
theorem dX9_count_144 : decode cX9_count 144 = .ok (.aload_n 0, 1) := by decide +kernel
theorem dX9_count_145 : decode cX9_count 145 = .ok (.getfield 82, 3) := by decide +kernel
theorem dX9_count_148 : decode cX9_count 148 = .ok (.ireturn, 1) := by decide +kernel
theorem dX9_count_149 : decode cX9_count 149 = .ok (.aload_n 0, 1) := by decide +kernel
theorem dX9_count_150 : decode cX9_count 150 = .ok (.getfield 114, 3) := by decide +kernel
theorem dX9_count_153 : decode cX9_count 153 = .ok (.ireturn, 1) := by decide +kernel
theorem dX9_count_154 : decode cX9_count 154 = .ok (.iload 4, 2) := by decide +kernel
theorem dX9_count_156 : decode cX9_count 156 = .ok (.ireturn, 1) := by decide +kernel
theorem dX9_count_157 : decode cX9_count 157 = .ok (.iload_n 2, 1) := by decide +kernel
theorem dX9_count_158 : decode cX9_count 158 = .ok (.ireturn, 1) := by decide +kernel
theorem dX9_count_159 : decode cX9_count 159 = .ok (.iload_n 3, 1) := by decide +kernel
theorem dX9_count_160 : decode cX9_count 160 = .ok (.ireturn, 1) := by decide +kernel
theorem dX9_count_161 : decode cX9_count 161 = .ok (.aload_n 0, 1) := by decide +kernel
theorem dX9_count_162 : decode cX9_count 162 = .ok (.getfield 120, 3) := by decide +kernel
theorem dX9_count_165 : decode cX9_count 165 = .ok (.ireturn, 1) := by decide +kernel
theorem dX9_count_166 : decode cX9_count 166 = .ok (.aload_n 0, 1) := by decide +kernel
theorem dX9_count_167 : decode cX9_count 167 = .ok (.getfield 123, 3) := by decide +kernel
theorem dX9_count_170 : decode cX9_count 170 = .ok (.ifCond .eq 7, 3) := by decide +kernel
theorem dX9_count_173 : decode cX9_count 173 = .ok (.iconst 1, 1) := by decide +kernel
theorem dX9_count_174 : decode cX9_count 174 = .ok (.goto 4, 3) := by decide +kernel
theorem dX9_count_177 : decode cX9_count 177 = .ok (.iconst 0, 1) := by decide +kernel
theorem dX9_count_178 : decode cX9_count 178 = .ok (.ireturn, 1) := by decide +kernel
theorem dX9_count_179 : decode cX9_count 179 = .ok (.aload_n 0, 1) := by decide +kernel
theorem dX9_count_180 : decode cX9_count 180 = .ok (.getfield 117, 3) := by decide +kernel
theorem dX9_count_183 : decode cX9_count 183 = .ok (.ireturn, 1) := by decide +kernel
theorem dX9_count_184 : decode cX9_count 184 = .ok (.aload_n 0, 1) := by decide +kernel
theorem dX9_count_185 : decode cX9_count 185 = .ok (.getfield 72, 3) := by decide +kernel
theorem dX9_count_188 : decode cX9_count 188 = .ok (.ireturn, 1) := by decide +kernel
theorem dX9_count_189 : decode cX9_count 189 = .ok (.aload_n 0, 1) := by decide +kernel
theorem dX9_count_190 : decode cX9_count 190 = .ok (.getfield 127, 3) := by decide +kernel
theorem dX9_count_193 : decode cX9_count 193 = .ok (.ireturn, 1) := by decide +kernel
theorem dX9_count_194 : decode cX9_count 194 = .ok (.bipush (-2), 2) := by decide +kernel
theorem dX9_count_196 : decode cX9_count 196 = .ok (.ireturn, 1) := by decide +kernel
