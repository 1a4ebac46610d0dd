theorem dX9_init_0 : decode cX9_init 0 = .ok (.aload_n 0, 1) := by decide +kernel
theorem dX9_init_1 : decode cX9_init 1 = .ok (.invokespecial 1, 3) := by decide +kernel
theorem dX9_init_4 : decode cX9_init 4 = .ok (.aload_n 0, 1) := by decide +kernel
theorem dX9_init_5 : decode cX9_init 5 = .ok (.bipush 10, 2) := by decide +kernel
theorem dX9_init_7 : decode cX9_init 7 = .ok (.newarray .int, 2) := by decide +kernel
theorem dX9_init_9 : decode cX9_init 9 = .ok (.putfield 7, 3) := by decide +kernel
theorem dX9_init_12 : decode cX9_init 12 = .ok (.aload_n 0, 1) := by decide +kernel
theorem dX9_init_13 : decode cX9_init 13 = .ok (.bipush 10, 2) := by decide +kernel
theorem dX9_init_15 : decode cX9_init 15 = .ok (.newarray .int, 2) := by decide +kernel
theorem dX9_init_17 : decode cX9_init 17 = .ok (.putfield 13, 3) := by decide +kernel
theorem dX9_init_20 : decode cX9_init 20 = .ok (.aload_n 0, 1) := by decide +kernel
theorem dX9_init_21 : decode cX9_init 21 = .ok (.bipush 10, 2) := by decide +kernel
theorem dX9_init_23 : decode cX9_init 23 = .ok (.newarray .int, 2) := by decide +kernel
theorem dX9_init_25 : decode cX9_init 25 = .ok (.putfield 16, 3) := by decide +kernel
theorem dX9_init_28 : decode cX9_init 28 = .ok (.aload_n 0, 1) := by decide +kernel
theorem dX9_init_29 : decode cX9_init 29 = .ok (.bipush 10, 2) := by decide +kernel
theorem dX9_init_31 : decode cX9_init 31 = .ok (.newarray .int, 2) := by decide +kernel
theorem dX9_init_33 : decode cX9_init 33 = .ok (.putfield 19, 3) := by decide +kernel
theorem dX9_init_36 : decode cX9_init 36 = .ok (.aload_n 0, 1) := by decide +kernel
theorem dX9_init_37 : decode cX9_init 37 = .ok (.bipush 10, 2) := by decide +kernel
theorem dX9_init_39 : decode cX9_init 39 = .ok (.newarray .int, 2) := by decide +kernel
theorem dX9_init_41 : decode cX9_init 41 = .ok (.putfield 22, 3) := by decide +kernel
theorem dX9_init_44 : decode cX9_init 44 = .ok (.aload_n 0, 1) := by decide +kernel
theorem dX9_init_45 : decode cX9_init 45 = .ok (.bipush 10, 2) := by decide +kernel
theorem dX9_init_47 : decode cX9_init 47 = .ok (.newarray .int, 2) := by decide +kernel
theorem dX9_init_49 : decode cX9_init 49 = .ok (.putfield 25, 3) := by decide +kernel
theorem dX9_init_52 : decode cX9_init 52 = .ok (.aload_n 0, 1) := by decide +kernel
theorem dX9_init_53 : decode cX9_init 53 = .ok (.bipush 10, 2) := by decide +kernel
theorem dX9_init_55 : decode cX9_init 55 = .ok (.newarray .int, 2) := by decide +kernel
theorem dX9_init_57 : decode cX9_init 57 = .ok (.putfield 28, 3) := by decide +kernel
theorem dX9_init_60 : decode cX9_init 60 = .ok (.aload_n 0, 1) := by decide +kernel
theorem dX9_init_61 : decode cX9_init 61 = .ok (.bipush 10, 2) := by decide +kernel
theorem dX9_init_63 : decode cX9_init 63 = .ok (.newarray .int, 2) := by decide +kernel
theorem dX9_init_65 : decode cX9_init 65 = .ok (.putfield 31, 3) := by decide +kernel
theorem dX9_init_68 : decode cX9_init 68 = .ok (.aload_n 0, 1) := by decide +kernel
theorem dX9_init_69 : decode cX9_init 69 = .ok (.bipush 10, 2) := by decide +kernel
theorem dX9_init_71 : decode cX9_init 71 = .ok (.newarray .int, 2) := by decide +kernel
theorem dX9_init_73 : decode cX9_init 73 = .ok (.putfield 34, 3) := by decide +kernel
theorem dX9_init_76 : decode cX9_init 76 = .ok (.aload_n 0, 1) := by decide +kernel
theorem dX9_init_77 : decode cX9_init 77 = .ok (.bipush 72, 2) := by decide +kernel
theorem dX9_init_79 : decode cX9_init 79 = .ok (.newarray .int, 2) := by decide +kernel
theorem dX9_init_81 : decode cX9_init 81 = .ok (.putfield 37, 3) := by decide +kernel
theorem dX9_init_84 : decode cX9_init 84 = .ok (.aload_n 0, 1) := by decide +kernel
theorem dX9_init_85 : decode cX9_init 85 = .ok (.bipush 60, 2) := by decide +kernel
theorem dX9_init_87 : decode cX9_init 87 = .ok (.newarray .int, 2) := by decide +kernel
theorem dX9_init_89 : decode cX9_init 89 = .ok (.putfield 40, 3) := by decide +kernel
theorem dX9_init_92 : decode cX9_init 92 = .ok (.aload_n 0, 1) := by decide +kernel
theorem dX9_init_93 : decode cX9_init 93 = .ok (.bipush 60, 2) := by decide +kernel
theorem dX9_init_95 : decode cX9_init 95 = .ok (.newarray .int, 2) := by decide +kernel
theorem dX9_init_97 : decode cX9_init 97 = .ok (.putfield 43, 3) := by decide +kernel
theorem dX9_init_100 : decode cX9_init 100 = .ok (.aload_n 0, 1) := by decide +kernel
theorem dX9_init_101 : decode cX9_init 101 = .ok (.bipush 60, 2) := by decide +kernel
theorem dX9_init_103 : decode cX9_init 103 = .ok (.newarray .int, 2) := by decide +kernel
theorem dX9_init_105 : decode cX9_init 105 = .ok (.putfield 46, 3) := by decide +kernel
theorem dX9_init_108 : decode cX9_init 108 = .ok (.aload_n 0, 1) := by decide +kernel
theorem dX9_init_109 : decode cX9_init 109 = .ok (.sipush 768, 3) := by decide +kernel
theorem dX9_init_112 : decode cX9_init 112 = .ok (.newarray .int, 2) := by decide +kernel
theorem dX9_init_114 : decode cX9_init 114 = .ok (.putfield 49, 3) := by decide +kernel
theorem dX9_init_117 : decode cX9_init 117 = .ok (.aload_n 0, 1) := by decide +kernel
theorem dX9_init_118 : decode cX9_init 118 = .ok (.iconst 3, 1) := by decide +kernel
theorem dX9_init_119 : decode cX9_init 119 = .ok (.newarray .int, 2) := by decide +kernel
theorem dX9_init_121 : decode cX9_init 121 = .ok (.putfield 52, 3) := by decide +kernel
theorem dX9_init_124 : decode cX9_init 124 = .ok (.aload_n 0, 1) := by decide +kernel
theorem dX9_init_125 : decode cX9_init 125 = .ok (.bipush 100, 2) := by decide +kernel
theorem dX9_init_127 : decode cX9_init 127 = .ok (.newarray .long, 2) := by decide +kernel
theorem dX9_init_129 : decode cX9_init 129 = .ok (.putfield 55, 3) := by decide +kernel
theorem dX9_init_132 : decode cX9_init 132 = .ok (.aload_n 0, 1) := by decide +kernel
theorem dX9_init_133 : decode cX9_init 133 = .ok (.iconst 2, 1) := by decide +kernel
theorem dX9_init_134 : decode cX9_init 134 = .ok (.newarray .boolean, 2) := by decide +kernel
theorem dX9_init_136 : decode cX9_init 136 = .ok (.putfield 59, 3) := by decide +kernel
theorem dX9_init_139 : decode cX9_init 139 = .ok (.aload_n 0, 1) := by decide +kernel
theorem dX9_init_140 : decode cX9_init 140 = .ok (.bipush 60, 2) := by decide +kernel
theorem dX9_init_142 : decode cX9_init 142 = .ok (.newarray .int, 2) := by decide +kernel
theorem dX9_init_144 : decode cX9_init 144 = .ok (.putfield 63, 3) := by decide +kernel
theorem dX9_init_147 : decode cX9_init 147 = .ok (.aload_n 0, 1) := by decide +kernel
theorem dX9_init_148 : decode cX9_init 148 = .ok (.iconst 2, 1) := by decide +kernel
theorem dX9_init_149 : decode cX9_init 149 = .ok (.newarray .int, 2) := by decide +kernel
theorem dX9_init_151 : decode cX9_init 151 = .ok (.putfield 66, 3) := by decide +kernel
theorem dX9_init_154 : decode cX9_init 154 = .ok (.aload_n 0, 1) := by decide +kernel
theorem dX9_init_155 : decode cX9_init 155 = .ok (.iconst 2, 1) := by decide +kernel
theorem dX9_init_156 : decode cX9_init 156 = .ok (.newarray .boolean, 2) := by decide +kernel
theorem dX9_init_158 : decode cX9_init 158 = .ok (.putfield 69, 3) := by decide +kernel
theorem dX9_init_161 : decode cX9_init 161 = .ok (.aload_n 0, 1) := by decide +kernel
theorem dX9_init_162 : decode cX9_init 162 = .ok (.iconst 1, 1) := by decide +kernel
theorem dX9_init_163 : decode cX9_init 163 = .ok (.putfield 72, 3) := by decide +kernel
theorem dX9_init_166 : decode cX9_init 166 = .ok (.return_, 1) := by decide +kernel
theorem dX9_in_0 : decode cX9_in 0 = .ok (.lload_n 0, 1) := by decide +kernel
theorem dX9_in_1 : decode cX9_in 1 = .ok (.lload_n 2, 1) := by decide +kernel
theorem dX9_in_2 : decode cX9_in 2 = .ok (.lcmp, 1) := by decide +kernel
theorem dX9_in_3 : decode cX9_in 3 = .ok (.ifCond .lt 14, 3) := by decide +kernel
theorem dX9_in_6 : decode cX9_in 6 = .ok (.lload_n 0, 1) := by decide +kernel
theorem dX9_in_7 : decode cX9_in 7 = .ok (.lload 4, 2) := by decide +kernel
theorem dX9_in_9 : decode cX9_in 9 = .ok (.lcmp, 1) := by decide +kernel
theorem dX9_in_10 : decode cX9_in 10 = .ok (.ifCond .gt 7, 3) := by decide +kernel
theorem dX9_in_13 : decode cX9_in 13 = .ok (.iconst 1, 1) := by decide +kernel
theorem dX9_in_14 : decode cX9_in 14 = .ok (.goto 4, 3) := by decide +kernel
theorem dX9_in_17 : decode cX9_in 17 = .ok (.iconst 0, 1) := by decide +kernel
theorem dX9_in_18 : decode cX9_in 18 = .ok (.ireturn, 1) := by decide +kernel
set_option maxRecDepth 20000 in
theorem ggX9_write_X9_in : GoodIn wsX9_write wsX9_in := goodIn_r _ [8] (by decide +kernel) (by decide +kernel)
set_option maxRecDepth 20000 in
theorem gX9_write_X9_in : GoodIn wsX9_write (va_wsS RX9 78 yX9_in wsX9_in) := goodIn_app (goodIn_of _ (by decide +kernel)) ggX9_write_X9_in
theorem dX9_write_0 : decode cX9_write 0 = .ok (.iload_n 1, 1) := by decide +kernel
theorem dX9_write_1 : decode cX9_write 1 = .ok (.i2l, 1) := by decide +kernel
theorem dX9_write_2 : decode cX9_write 2 = .ok (.lconst 1, 1) := by decide +kernel
theorem dX9_write_3 : decode cX9_write 3 = .ok (.ldc2_w 76, 3) := by decide +kernel
theorem dX9_write_6 : decode cX9_write 6 = .ok (.invokestatic 78, 3) := by decide +kernel
theorem dX9_write_9 : decode cX9_write 9 = .ok (.ifCond .ne 6, 3) := by decide +kernel
theorem dX9_write_12 : decode cX9_write 12 = .ok (.bipush (-2), 2) := by decide +kernel
theorem dX9_write_14 : decode cX9_write 14 = .ok (.ireturn, 1) := by decide +kernel
theorem dX9_write_15 : decode cX9_write 15 = .ok (.aload_n 0, 1) := by decide +kernel
theorem dX9_write_16 : decode cX9_write 16 = .ok (.getfield 82, 3) := by decide +kernel
theorem dX9_write_19 : decode cX9_write 19 = .ok (.iload_n 1, 1) := by decide +kernel
theorem dX9_write_20 : decode cX9_write 20 = .ok (.iadd, 1) := by decide +kernel
theorem dX9_write_21 : decode cX9_write 21 = .ok (.bipush 72, 2) := by decide +kernel
theorem dX9_write_23 : decode cX9_write 23 = .ok (.if_icmp .le 6, 3) := by decide +kernel
theorem dX9_write_26 : decode cX9_write 26 = .ok (.bipush (-4), 2) := by decide +kernel
theorem dX9_write_28 : decode cX9_write 28 = .ok (.ireturn, 1) := by decide +kernel
theorem dX9_write_29 : decode cX9_write 29 = .ok (.iload_n 1, 1) := by decide +kernel
theorem dX9_write_30 : decode cX9_write 30 = .ok (.iconst 1, 1) := by decide +kernel
theorem dX9_write_31 : decode cX9_write 31 = .ok (.isub, 1) := by decide +kernel
theorem dX9_write_32 : decode cX9_write 32 = .ok (.istore 4, 2) := by decide +kernel
theorem dX9_write_34 : decode cX9_write 34 = .ok (.iload 4, 2) := by decide +kernel
theorem dX9_write_36 : decode cX9_write 36 = .ok (.ifCond .lt 40, 3) := by decide +kernel
theorem dX9_write_39 : decode cX9_write 39 = .ok (.aload_n 0, 1) := by decide +kernel
theorem dX9_write_40 : decode cX9_write 40 = .ok (.getfield 37, 3) := by decide +kernel
theorem dX9_write_43 : decode cX9_write 43 = .ok (.aload_n 0, 1) := by decide +kernel
theorem dX9_write_44 : decode cX9_write 44 = .ok (.getfield 82, 3) := by decide +kernel
theorem dX9_write_47 : decode cX9_write 47 = .ok (.lload_n 2, 1) := by decide +kernel
theorem dX9_write_48 : decode cX9_write 48 = .ok (.bipush 8, 2) := by decide +kernel
theorem dX9_write_50 : decode cX9_write 50 = .ok (.iload 4, 2) := by decide +kernel
theorem dX9_write_52 : decode cX9_write 52 = .ok (.imul, 1) := by decide +kernel
theorem dX9_write_53 : decode cX9_write 53 = .ok (.lshr, 1) := by decide +kernel
theorem dX9_write_54 : decode cX9_write 54 = .ok (.ldc2_w 85, 3) := by decide +kernel
theorem dX9_write_57 : decode cX9_write 57 = .ok (.land, 1) := by decide +kernel
theorem dX9_write_58 : decode cX9_write 58 = .ok (.l2i, 1) := by decide +kernel
theorem dX9_write_59 : decode cX9_write 59 = .ok (.iastore, 1) := by decide +kernel
theorem dX9_write_60 : decode cX9_write 60 = .ok (.aload_n 0, 1) := by decide +kernel
theorem dX9_write_61 : decode cX9_write 61 = .ok (.dup, 1) := by decide +kernel
theorem dX9_write_62 : decode cX9_write 62 = .ok (.getfield 82, 3) := by decide +kernel
theorem dX9_write_65 : decode cX9_write 65 = .ok (.iconst 1, 1) := by decide +kernel
theorem dX9_write_66 : decode cX9_write 66 = .ok (.iadd, 1) := by decide +kernel
theorem dX9_write_67 : decode cX9_write 67 = .ok (.putfield 82, 3) := by decide +kernel
theorem dX9_write_70 : decode cX9_write 70 = .ok (.iinc 4 (-1), 3) := by decide +kernel
theorem dX9_write_73 : decode cX9_write 73 = .ok (.goto (-39), 3) := by decide +kernel
theorem dX9_write_76 : decode cX9_write 76 = .ok (.aload_n 0, 1) := by decide +kernel
theorem dX9_write_77 : decode cX9_write 77 = .ok (.getfield 82, 3) := by decide +kernel
theorem dX9_write_80 : decode cX9_write 80 = .ok (.ireturn, 1) := by decide +kernel
theorem dX9_wipe_0 : decode cX9_wipe 0 = .ok (.aload_n 0, 1) := by decide +kernel
theorem dX9_wipe_1 : decode cX9_wipe 1 = .ok (.getfield 82, 3) := by decide +kernel
theorem dX9_wipe_4 : decode cX9_wipe 4 = .ok (.istore_n 1, 1) := by decide +kernel
theorem dX9_wipe_5 : decode cX9_wipe 5 = .ok (.aload_n 0, 1) := by decide +kernel
theorem dX9_wipe_6 : decode cX9_wipe 6 = .ok (.iconst 0, 1) := by decide +kernel
theorem dX9_wipe_7 : decode cX9_wipe 7 = .ok (.putfield 82, 3) := by decide +kernel
theorem dX9_wipe_10 : decode cX9_wipe 10 = .ok (.iload_n 1, 1) := by decide +kernel
theorem dX9_wipe_11 : decode cX9_wipe 11 = .ok (.ireturn, 1) := by decide +kernel
set_option maxRecDepth 20000 in
theorem ggX9_figure_X9_in : GoodIn wsX9_figure wsX9_in := goodIn_r _ [8] (by decide +kernel) (by decide +kernel)
set_option maxRecDepth 20000 in
theorem gX9_figure_X9_in : GoodIn wsX9_figure (va_wsS RX9 78 yX9_in wsX9_in) := goodIn_app (goodIn_of _ (by decide +kernel)) ggX9_figure_X9_in
theorem dX9_figure_0 : decode cX9_figure 0 = .ok (.aload_n 0, 1) := by decide +kernel
theorem dX9_figure_1 : decode cX9_figure 1 = .ok (.getfield 87, 3) := by decide +kernel
theorem dX9_figure_4 : decode cX9_figure 4 = .ok (.bipush (-9), 2) := by decide +kernel
theorem dX9_figure_6 : decode cX9_figure 6 = .ok (.if_icmp .ne 29, 3) := by decide +kernel
theorem dX9_figure_9 : decode cX9_figure 9 = .ok (.aload_n 0, 1) := by decide +kernel
theorem dX9_figure_10 : decode cX9_figure 10 = .ok (.getfield 90, 3) := by decide +kernel
theorem dX9_figure_13 : decode cX9_figure 13 = .ok (.aload_n 0, 1) := by decide +kernel
theorem dX9_figure_14 : decode cX9_figure 14 = .ok (.getfield 82, 3) := by decide +kernel
theorem dX9_figure_17 : decode cX9_figure 17 = .ok (.if_icmp .ge 18, 3) := by decide +kernel
theorem dX9_figure_20 : decode cX9_figure 20 = .ok (.aload_n 0, 1) := by decide +kernel
theorem dX9_figure_21 : decode cX9_figure 21 = .ok (.getfield 37, 3) := by decide +kernel
theorem dX9_figure_24 : decode cX9_figure 24 = .ok (.aload_n 0, 1) := by decide +kernel
theorem dX9_figure_25 : decode cX9_figure 25 = .ok (.getfield 90, 3) := by decide +kernel
theorem dX9_figure_28 : decode cX9_figure 28 = .ok (.iaload, 1) := by decide +kernel
theorem dX9_figure_29 : decode cX9_figure 29 = .ok (.bipush 48, 2) := by decide +kernel
theorem dX9_figure_31 : decode cX9_figure 31 = .ok (.isub, 1) := by decide +kernel
theorem dX9_figure_32 : decode cX9_figure 32 = .ok (.goto 4, 3) := by decide +kernel
theorem dX9_figure_35 : decode cX9_figure 35 = .ok (.iconst (-1), 1) := by decide +kernel
theorem dX9_figure_36 : decode cX9_figure 36 = .ok (.istore_n 3, 1) := by decide +kernel
theorem dX9_figure_37 : decode cX9_figure 37 = .ok (.iload_n 3, 1) := by decide +kernel
theorem dX9_figure_38 : decode cX9_figure 38 = .ok (.i2l, 1) := by decide +kernel
theorem dX9_figure_39 : decode cX9_figure 39 = .ok (.iload_n 1, 1) := by decide +kernel
theorem dX9_figure_40 : decode cX9_figure 40 = .ok (.i2l, 1) := by decide +kernel
theorem dX9_figure_41 : decode cX9_figure 41 = .ok (.iload_n 2, 1) := by decide +kernel
theorem dX9_figure_42 : decode cX9_figure 42 = .ok (.i2l, 1) := by decide +kernel
theorem dX9_figure_43 : decode cX9_figure 43 = .ok (.invokestatic 78, 3) := by decide +kernel
theorem dX9_figure_46 : decode cX9_figure 46 = .ok (.ifCond .ne 29, 3) := by decide +kernel
theorem dX9_figure_49 : decode cX9_figure 49 = .ok (.aload_n 0, 1) := by decide +kernel
theorem dX9_figure_50 : decode cX9_figure 50 = .ok (.aload_n 0, 1) := by decide +kernel
theorem dX9_figure_51 : decode cX9_figure 51 = .ok (.getfield 87, 3) := by decide +kernel
theorem dX9_figure_54 : decode cX9_figure 54 = .ok (.bipush (-9), 2) := by decide +kernel
theorem dX9_figure_56 : decode cX9_figure 56 = .ok (.if_icmp .ne 10, 3) := by decide +kernel
theorem dX9_figure_59 : decode cX9_figure 59 = .ok (.aload_n 0, 1) := by decide +kernel
theorem dX9_figure_60 : decode cX9_figure 60 = .ok (.getfield 90, 3) := by decide +kernel
theorem dX9_figure_63 : decode cX9_figure 63 = .ok (.goto 7, 3) := by decide +kernel
theorem dX9_figure_66 : decode cX9_figure 66 = .ok (.aload_n 0, 1) := by decide +kernel
theorem dX9_figure_67 : decode cX9_figure 67 = .ok (.getfield 87, 3) := by decide +kernel
theorem dX9_figure_70 : decode cX9_figure 70 = .ok (.putfield 87, 3) := by decide +kernel
theorem dX9_figure_73 : decode cX9_figure 73 = .ok (.iconst 0, 1) := by decide +kernel
theorem dX9_figure_74 : decode cX9_figure 74 = .ok (.ireturn, 1) := by decide +kernel
theorem dX9_figure_75 : decode cX9_figure 75 = .ok (.aload_n 0, 1) := by decide +kernel
theorem dX9_figure_76 : decode cX9_figure 76 = .ok (.dup, 1) := by decide +kernel
theorem dX9_figure_77 : decode cX9_figure 77 = .ok (.getfield 90, 3) := by decide +kernel
theorem dX9_figure_80 : decode cX9_figure 80 = .ok (.iconst 1, 1) := by decide +kernel
theorem dX9_figure_81 : decode cX9_figure 81 = .ok (.iadd, 1) := by decide +kernel
theorem dX9_figure_82 : decode cX9_figure 82 = .ok (.putfield 90, 3) := by decide +kernel
theorem dX9_figure_85 : decode cX9_figure 85 = .ok (.iload_n 3, 1) := by decide +kernel
theorem dX9_figure_86 : decode cX9_figure 86 = .ok (.ireturn, 1) := by decide +kernel
set_option maxRecDepth 20000 in
theorem ggX9_readText_X9_figure : GoodIn wsX9_readText wsX9_figure := goodIn_r _ [12, 2, 1, 4, 5, 13, 14, 11, 15, 25, 26, 27, 28, 29, 30, 31, 32, 33, 34, 35, 36, 37, 38, 39, 40, 41, 42, 43, 44, 45, 46, 47, 48, 49, 50, 51, 52, 53, 54, 55, 56, 57, 58, 59] (by decide +kernel) (by decide +kernel)
set_option maxRecDepth 20000 in
theorem gX9_readText_X9_figure : GoodIn wsX9_readText (wsV RX9 96 RX9 yX9_figure wsX9_figure) := goodIn_app (goodIn_of _ (by decide +kernel)) ggX9_readText_X9_figure
set_option maxRecDepth 20000 in
theorem ggX9_readText_X9_readPlace : GoodIn wsX9_readText wsX9_readPlace := goodIn_r _ [19, 1, 3, 20, 21, 22, 2, 4, 5, 23, 24, 8, 9, 10, 11, 12, 13, 14, 15, 25, 26, 27, 28, 29, 30, 31, 32, 33, 34, 35, 36, 37, 38, 39, 40, 41, 42, 43, 44, 45, 46, 47, 48, 49, 50, 51, 52, 53, 54, 55, 56, 57, 58, 59] (by decide +kernel) (by decide +kernel)
set_option maxRecDepth 20000 in
theorem gX9_readText_X9_readPlace : GoodIn wsX9_readText (wsV RX9 106 RX9 yX9_readPlace wsX9_readPlace) := goodIn_app (goodIn_of _ (by decide +kernel)) ggX9_readText_X9_readPlace
theorem dX9_readText_0 : decode cX9_readText 0 = .ok (.aload_n 0, 1) := by decide +kernel
theorem dX9_readText_1 : decode cX9_readText 1 = .ok (.iconst 0, 1) := by decide +kernel
theorem dX9_readText_2 : decode cX9_readText 2 = .ok (.putfield 90, 3) := by decide +kernel
theorem dX9_readText_5 : decode cX9_readText 5 = .ok (.aload_n 0, 1) := by decide +kernel
theorem dX9_readText_6 : decode cX9_readText 6 = .ok (.bipush (-9), 2) := by decide +kernel
theorem dX9_readText_8 : decode cX9_readText 8 = .ok (.putfield 87, 3) := by decide +kernel
theorem dX9_readText_11 : decode cX9_readText 11 = .ok (.aload_n 0, 1) := by decide +kernel
theorem dX9_readText_12 : decode cX9_readText 12 = .ok (.iconst 0, 1) := by decide +kernel
theorem dX9_readText_13 : decode cX9_readText 13 = .ok (.putfield 93, 3) := by decide +kernel
theorem dX9_readText_16 : decode cX9_readText 16 = .ok (.aload_n 0, 1) := by decide +kernel
theorem dX9_readText_17 : decode cX9_readText 17 = .ok (.getfield 82, 3) := by decide +kernel
theorem dX9_readText_20 : decode cX9_readText 20 = .ok (.ifCond .eq 14, 3) := by decide +kernel
theorem dX9_readText_23 : decode cX9_readText 23 = .ok (.aload_n 0, 1) := by decide +kernel
theorem dX9_readText_24 : decode cX9_readText 24 = .ok (.getfield 37, 3) := by decide +kernel
theorem dX9_readText_27 : decode cX9_readText 27 = .ok (.iconst 0, 1) := by decide +kernel
theorem dX9_readText_28 : decode cX9_readText 28 = .ok (.iaload, 1) := by decide +kernel
theorem dX9_readText_29 : decode cX9_readText 29 = .ok (.bipush 83, 2) := by decide +kernel
theorem dX9_readText_31 : decode cX9_readText 31 = .ok (.if_icmp .eq 5, 3) := by decide +kernel
theorem dX9_readText_34 : decode cX9_readText 34 = .ok (.iconst 0, 1) := by decide +kernel
theorem dX9_readText_35 : decode cX9_readText 35 = .ok (.ireturn, 1) := by decide +kernel
theorem dX9_readText_36 : decode cX9_readText 36 = .ok (.aload_n 0, 1) := by decide +kernel
theorem dX9_readText_37 : decode cX9_readText 37 = .ok (.iconst 1, 1) := by decide +kernel
theorem dX9_readText_38 : decode cX9_readText 38 = .ok (.putfield 90, 3) := by decide +kernel
theorem dX9_readText_41 : decode cX9_readText 41 = .ok (.aload_n 0, 1) := by decide +kernel
theorem dX9_readText_42 : decode cX9_readText 42 = .ok (.aload_n 0, 1) := by decide +kernel
theorem dX9_readText_43 : decode cX9_readText 43 = .ok (.iconst 0, 1) := by decide +kernel
theorem dX9_readText_44 : decode cX9_readText 44 = .ok (.bipush 9, 2) := by decide +kernel
theorem dX9_readText_46 : decode cX9_readText 46 = .ok (.invokevirtual 96, 3) := by decide +kernel
theorem dX9_readText_49 : decode cX9_readText 49 = .ok (.putfield 100, 3) := by decide +kernel
theorem dX9_readText_52 : decode cX9_readText 52 = .ok (.aload_n 0, 1) := by decide +kernel
theorem dX9_readText_53 : decode cX9_readText 53 = .ok (.iconst 0, 1) := by decide +kernel
theorem dX9_readText_54 : decode cX9_readText 54 = .ok (.bipush 9, 2) := by decide +kernel
theorem dX9_readText_56 : decode cX9_readText 56 = .ok (.invokevirtual 96, 3) := by decide +kernel
theorem dX9_readText_59 : decode cX9_readText 59 = .ok (.istore_n 1, 1) := by decide +kernel
theorem dX9_readText_60 : decode cX9_readText 60 = .ok (.aload_n 0, 1) := by decide +kernel
theorem dX9_readText_61 : decode cX9_readText 61 = .ok (.bipush 10, 2) := by decide +kernel
theorem dX9_readText_63 : decode cX9_readText 63 = .ok (.iload_n 1, 1) := by decide +kernel
theorem dX9_readText_64 : decode cX9_readText 64 = .ok (.imul, 1) := by decide +kernel
theorem dX9_readText_65 : decode cX9_readText 65 = .ok (.aload_n 0, 1) := by decide +kernel
theorem dX9_readText_66 : decode cX9_readText 66 = .ok (.iload_n 1, 1) := by decide +kernel
theorem dX9_readText_67 : decode cX9_readText 67 = .ok (.ifCond .ne 7, 3) := by decide +kernel
theorem dX9_readText_70 : decode cX9_readText 70 = .ok (.iconst 1, 1) := by decide +kernel
theorem dX9_readText_71 : decode cX9_readText 71 = .ok (.goto 4, 3) := by decide +kernel
theorem dX9_readText_74 : decode cX9_readText 74 = .ok (.iconst 0, 1) := by decide +kernel
theorem dX9_readText_75 : decode cX9_readText 75 = .ok (.bipush 9, 2) := by decide +kernel
theorem dX9_readText_77 : decode cX9_readText 77 = .ok (.invokevirtual 96, 3) := by decide +kernel
theorem dX9_readText_80 : decode cX9_readText 80 = .ok (.iadd, 1) := by decide +kernel
theorem dX9_readText_81 : decode cX9_readText 81 = .ok (.putfield 103, 3) := by decide +kernel
theorem dX9_readText_84 : decode cX9_readText 84 = .ok (.aload_n 0, 1) := by decide +kernel
theorem dX9_readText_85 : decode cX9_readText 85 = .ok (.getfield 87, 3) := by decide +kernel
theorem dX9_readText_88 : decode cX9_readText 88 = .ok (.bipush (-9), 2) := by decide +kernel
theorem dX9_readText_90 : decode cX9_readText 90 = .ok (.if_icmp .ne 80, 3) := by decide +kernel
theorem dX9_readText_93 : decode cX9_readText 93 = .ok (.aload_n 0, 1) := by decide +kernel
theorem dX9_readText_94 : decode cX9_readText 94 = .ok (.getfield 90, 3) := by decide +kernel
theorem dX9_readText_97 : decode cX9_readText 97 = .ok (.aload_n 0, 1) := by decide +kernel
theorem dX9_readText_98 : decode cX9_readText 98 = .ok (.getfield 82, 3) := by decide +kernel
theorem dX9_readText_101 : decode cX9_readText 101 = .ok (.if_icmp .ge 69, 3) := by decide +kernel
theorem dX9_readText_104 : decode cX9_readText 104 = .ok (.aload_n 0, 1) := by decide +kernel
theorem dX9_readText_105 : decode cX9_readText 105 = .ok (.getfield 37, 3) := by decide +kernel
theorem dX9_readText_108 : decode cX9_readText 108 = .ok (.aload_n 0, 1) := by decide +kernel
theorem dX9_readText_109 : decode cX9_readText 109 = .ok (.getfield 90, 3) := by decide +kernel
theorem dX9_readText_112 : decode cX9_readText 112 = .ok (.iaload, 1) := by decide +kernel
theorem dX9_readText_113 : decode cX9_readText 113 = .ok (.bipush 80, 2) := by decide +kernel
theorem dX9_readText_115 : decode cX9_readText 115 = .ok (.if_icmp .ne 7, 3) := by decide +kernel
theorem dX9_readText_118 : decode cX9_readText 118 = .ok (.iconst 1, 1) := by decide +kernel
theorem dX9_readText_119 : decode cX9_readText 119 = .ok (.goto 4, 3) := by decide +kernel
theorem dX9_readText_122 : decode cX9_readText 122 = .ok (.iconst 0, 1) := by decide +kernel
theorem dX9_readText_123 : decode cX9_readText 123 = .ok (.istore_n 2, 1) := by decide +kernel
theorem dX9_readText_124 : decode cX9_readText 124 = .ok (.iload_n 2, 1) := by decide +kernel
theorem dX9_readText_125 : decode cX9_readText 125 = .ok (.ifCond .ne 17, 3) := by decide +kernel
theorem dX9_readText_128 : decode cX9_readText 128 = .ok (.aload_n 0, 1) := by decide +kernel
theorem dX9_readText_129 : decode cX9_readText 129 = .ok (.getfield 37, 3) := by decide +kernel
theorem dX9_readText_132 : decode cX9_readText 132 = .ok (.aload_n 0, 1) := by decide +kernel
theorem dX9_readText_133 : decode cX9_readText 133 = .ok (.getfield 90, 3) := by decide +kernel
theorem dX9_readText_136 : decode cX9_readText 136 = .ok (.iaload, 1) := by decide +kernel
theorem dX9_readText_137 : decode cX9_readText 137 = .ok (.bipush 79, 2) := by decide +kernel
theorem dX9_readText_139 : decode cX9_readText 139 = .ok (.if_icmp .ne 20, 3) := by decide +kernel
theorem dX9_readText_142 : decode cX9_readText 142 = .ok (.aload_n 0, 1) := by decide +kernel
theorem dX9_readText_143 : decode cX9_readText 143 = .ok (.getfield 93, 3) := by decide +kernel
theorem dX9_readText_146 : decode cX9_readText 146 = .ok (.bipush 10, 2) := by decide +kernel
theorem dX9_readText_148 : decode cX9_readText 148 = .ok (.if_icmp .ge 11, 3) := by decide +kernel
theorem dX9_readText_151 : decode cX9_readText 151 = .ok (.aload_n 0, 1) := by decide +kernel
theorem dX9_readText_152 : decode cX9_readText 152 = .ok (.iload_n 2, 1) := by decide +kernel
theorem dX9_readText_153 : decode cX9_readText 153 = .ok (.invokevirtual 106, 3) := by decide +kernel
theorem dX9_readText_156 : decode cX9_readText 156 = .ok (.goto 11, 3) := by decide +kernel
theorem dX9_readText_159 : decode cX9_readText 159 = .ok (.aload_n 0, 1) := by decide +kernel
theorem dX9_readText_160 : decode cX9_readText 160 = .ok (.aload_n 0, 1) := by decide +kernel
theorem dX9_readText_161 : decode cX9_readText 161 = .ok (.getfield 90, 3) := by decide +kernel
theorem dX9_readText_164 : decode cX9_readText 164 = .ok (.putfield 87, 3) := by decide +kernel
theorem dX9_readText_167 : decode cX9_readText 167 = .ok (.goto (-83), 3) := by decide +kernel
theorem dX9_readText_170 : decode cX9_readText 170 = .ok (.aload_n 0, 1) := by decide +kernel
theorem dX9_readText_171 : decode cX9_readText 171 = .ok (.getfield 87, 3) := by decide +kernel
theorem dX9_readText_174 : decode cX9_readText 174 = .ok (.ireturn, 1) := by decide +kernel
set_option maxRecDepth 20000 in
theorem ggX9_readPlace_X9_figure : GoodIn wsX9_readPlace wsX9_figure := goodIn_r _ [15, 6, 1, 7, 8, 16, 17, 14, 18, 19, 20, 21, 22, 23, 24, 25, 26, 27, 28, 29, 30, 31, 32, 33, 34, 35, 36, 37, 38, 39, 40, 41, 42, 43, 44, 45, 46, 47, 48, 49, 50, 51, 52, 53] (by decide +kernel) (by decide +kernel)
set_option maxRecDepth 20000 in
theorem gX9_readPlace_X9_figure : GoodIn wsX9_readPlace (wsV RX9 96 RX9 yX9_figure wsX9_figure) := goodIn_app (goodIn_of _ (by decide +kernel)) ggX9_readPlace_X9_figure
theorem dX9_readPlace_0 : decode cX9_readPlace 0 = .ok (.aload_n 0, 1) := by decide +kernel
theorem dX9_readPlace_1 : decode cX9_readPlace 1 = .ok (.dup, 1) := by decide +kernel
theorem dX9_readPlace_2 : decode cX9_readPlace 2 = .ok (.getfield 90, 3) := by decide +kernel
theorem dX9_readPlace_5 : decode cX9_readPlace 5 = .ok (.iconst 1, 1) := by decide +kernel
theorem dX9_readPlace_6 : decode cX9_readPlace 6 = .ok (.iadd, 1) := by decide +kernel
theorem dX9_readPlace_7 : decode cX9_readPlace 7 = .ok (.putfield 90, 3) := by decide +kernel
theorem dX9_readPlace_10 : decode cX9_readPlace 10 = .ok (.aload_n 0, 1) := by decide +kernel
theorem dX9_readPlace_11 : decode cX9_readPlace 11 = .ok (.getfield 93, 3) := by decide +kernel
theorem dX9_readPlace_14 : decode cX9_readPlace 14 = .ok (.istore_n 2, 1) := by decide +kernel
theorem dX9_readPlace_15 : decode cX9_readPlace 15 = .ok (.aload_n 0, 1) := by decide +kernel
theorem dX9_readPlace_16 : decode cX9_readPlace 16 = .ok (.getfield 7, 3) := by decide +kernel
theorem dX9_readPlace_19 : decode cX9_readPlace 19 = .ok (.iload_n 2, 1) := by decide +kernel
theorem dX9_readPlace_20 : decode cX9_readPlace 20 = .ok (.aload_n 0, 1) := by decide +kernel
theorem dX9_readPlace_21 : decode cX9_readPlace 21 = .ok (.iconst 1, 1) := by decide +kernel
theorem dX9_readPlace_22 : decode cX9_readPlace 22 = .ok (.bipush 9, 2) := by decide +kernel
theorem dX9_readPlace_24 : decode cX9_readPlace 24 = .ok (.invokevirtual 96, 3) := by decide +kernel
theorem dX9_readPlace_27 : decode cX9_readPlace 27 = .ok (.iastore, 1) := by decide +kernel
theorem dX9_readPlace_28 : decode cX9_readPlace 28 = .ok (.aload_n 0, 1) := by decide +kernel
theorem dX9_readPlace_29 : decode cX9_readPlace 29 = .ok (.getfield 13, 3) := by decide +kernel
theorem dX9_readPlace_32 : decode cX9_readPlace 32 = .ok (.iload_n 2, 1) := by decide +kernel
theorem dX9_readPlace_33 : decode cX9_readPlace 33 = .ok (.aload_n 0, 1) := by decide +kernel
theorem dX9_readPlace_34 : decode cX9_readPlace 34 = .ok (.iconst 0, 1) := by decide +kernel
theorem dX9_readPlace_35 : decode cX9_readPlace 35 = .ok (.bipush 9, 2) := by decide +kernel
theorem dX9_readPlace_37 : decode cX9_readPlace 37 = .ok (.invokevirtual 96, 3) := by decide +kernel
theorem dX9_readPlace_40 : decode cX9_readPlace 40 = .ok (.iastore, 1) := by decide +kernel
theorem dX9_readPlace_41 : decode cX9_readPlace 41 = .ok (.aload_n 0, 1) := by decide +kernel
theorem dX9_readPlace_42 : decode cX9_readPlace 42 = .ok (.getfield 16, 3) := by decide +kernel
theorem dX9_readPlace_45 : decode cX9_readPlace 45 = .ok (.iload_n 2, 1) := by decide +kernel
theorem dX9_readPlace_46 : decode cX9_readPlace 46 = .ok (.bipush (-9), 2) := by decide +kernel
theorem dX9_readPlace_48 : decode cX9_readPlace 48 = .ok (.iastore, 1) := by decide +kernel
theorem dX9_readPlace_49 : decode cX9_readPlace 49 = .ok (.aload_n 0, 1) := by decide +kernel
theorem dX9_readPlace_50 : decode cX9_readPlace 50 = .ok (.getfield 87, 3) := by decide +kernel
theorem dX9_readPlace_53 : decode cX9_readPlace 53 = .ok (.bipush (-9), 2) := by decide +kernel
theorem dX9_readPlace_55 : decode cX9_readPlace 55 = .ok (.if_icmp .ne 41, 3) := by decide +kernel
theorem dX9_readPlace_58 : decode cX9_readPlace 58 = .ok (.aload_n 0, 1) := by decide +kernel
theorem dX9_readPlace_59 : decode cX9_readPlace 59 = .ok (.getfield 90, 3) := by decide +kernel
theorem dX9_readPlace_62 : decode cX9_readPlace 62 = .ok (.aload_n 0, 1) := by decide +kernel
theorem dX9_readPlace_63 : decode cX9_readPlace 63 = .ok (.getfield 82, 3) := by decide +kernel
theorem dX9_readPlace_66 : decode cX9_readPlace 66 = .ok (.if_icmp .ge 30, 3) := by decide +kernel
theorem dX9_readPlace_69 : decode cX9_readPlace 69 = .ok (.aload_n 0, 1) := by decide +kernel
theorem dX9_readPlace_70 : decode cX9_readPlace 70 = .ok (.getfield 37, 3) := by decide +kernel
theorem dX9_readPlace_73 : decode cX9_readPlace 73 = .ok (.aload_n 0, 1) := by decide +kernel
theorem dX9_readPlace_74 : decode cX9_readPlace 74 = .ok (.getfield 90, 3) := by decide +kernel
theorem dX9_readPlace_77 : decode cX9_readPlace 77 = .ok (.iaload, 1) := by decide +kernel
theorem dX9_readPlace_78 : decode cX9_readPlace 78 = .ok (.bipush 45, 2) := by decide +kernel
theorem dX9_readPlace_80 : decode cX9_readPlace 80 = .ok (.if_icmp .ne 16, 3) := by decide +kernel
theorem dX9_readPlace_83 : decode cX9_readPlace 83 = .ok (.aload_n 0, 1) := by decide +kernel
theorem dX9_readPlace_84 : decode cX9_readPlace 84 = .ok (.dup, 1) := by decide +kernel
theorem dX9_readPlace_85 : decode cX9_readPlace 85 = .ok (.getfield 90, 3) := by decide +kernel
theorem dX9_readPlace_88 : decode cX9_readPlace 88 = .ok (.iconst 1, 1) := by decide +kernel
theorem dX9_readPlace_89 : decode cX9_readPlace 89 = .ok (.iadd, 1) := by decide +kernel
theorem dX9_readPlace_90 : decode cX9_readPlace 90 = .ok (.putfield 90, 3) := by decide +kernel
theorem dX9_readPlace_93 : decode cX9_readPlace 93 = .ok (.goto 17, 3) := by decide +kernel
theorem dX9_readPlace_96 : decode cX9_readPlace 96 = .ok (.aload_n 0, 1) := by decide +kernel
theorem dX9_readPlace_97 : decode cX9_readPlace 97 = .ok (.getfield 16, 3) := by decide +kernel
theorem dX9_readPlace_100 : decode cX9_readPlace 100 = .ok (.iload_n 2, 1) := by decide +kernel
theorem dX9_readPlace_101 : decode cX9_readPlace 101 = .ok (.aload_n 0, 1) := by decide +kernel
theorem dX9_readPlace_102 : decode cX9_readPlace 102 = .ok (.iconst 0, 1) := by decide +kernel
theorem dX9_readPlace_103 : decode cX9_readPlace 103 = .ok (.iload_n 2, 1) := by decide +kernel
theorem dX9_readPlace_104 : decode cX9_readPlace 104 = .ok (.iconst 1, 1) := by decide +kernel
theorem dX9_readPlace_105 : decode cX9_readPlace 105 = .ok (.isub, 1) := by decide +kernel
theorem dX9_readPlace_106 : decode cX9_readPlace 106 = .ok (.invokevirtual 96, 3) := by decide +kernel
theorem dX9_readPlace_109 : decode cX9_readPlace 109 = .ok (.iastore, 1) := by decide +kernel
theorem dX9_readPlace_110 : decode cX9_readPlace 110 = .ok (.aload_n 0, 1) := by decide +kernel
theorem dX9_readPlace_111 : decode cX9_readPlace 111 = .ok (.getfield 19, 3) := by decide +kernel
theorem dX9_readPlace_114 : decode cX9_readPlace 114 = .ok (.iload_n 2, 1) := by decide +kernel
theorem dX9_readPlace_115 : decode cX9_readPlace 115 = .ok (.iload_n 1, 1) := by decide +kernel
theorem dX9_readPlace_116 : decode cX9_readPlace 116 = .ok (.ifCond .eq 12, 3) := by decide +kernel
theorem dX9_readPlace_119 : decode cX9_readPlace 119 = .ok (.aload_n 0, 1) := by decide +kernel
theorem dX9_readPlace_120 : decode cX9_readPlace 120 = .ok (.iconst 0, 1) := by decide +kernel
theorem dX9_readPlace_121 : decode cX9_readPlace 121 = .ok (.iconst 2, 1) := by decide +kernel
theorem dX9_readPlace_122 : decode cX9_readPlace 122 = .ok (.invokevirtual 96, 3) := by decide +kernel
theorem dX9_readPlace_125 : decode cX9_readPlace 125 = .ok (.goto 5, 3) := by decide +kernel
theorem dX9_readPlace_128 : decode cX9_readPlace 128 = .ok (.bipush (-9), 2) := by decide +kernel
theorem dX9_readPlace_130 : decode cX9_readPlace 130 = .ok (.iastore, 1) := by decide +kernel
theorem dX9_readPlace_131 : decode cX9_readPlace 131 = .ok (.aload_n 0, 1) := by decide +kernel
theorem dX9_readPlace_132 : decode cX9_readPlace 132 = .ok (.getfield 22, 3) := by decide +kernel
theorem dX9_readPlace_135 : decode cX9_readPlace 135 = .ok (.iload_n 2, 1) := by decide +kernel
theorem dX9_readPlace_136 : decode cX9_readPlace 136 = .ok (.iload_n 1, 1) := by decide +kernel
theorem dX9_readPlace_137 : decode cX9_readPlace 137 = .ok (.ifCond .eq 13, 3) := by decide +kernel
theorem dX9_readPlace_140 : decode cX9_readPlace 140 = .ok (.aload_n 0, 1) := by decide +kernel
theorem dX9_readPlace_141 : decode cX9_readPlace 141 = .ok (.iconst 0, 1) := by decide +kernel
theorem dX9_readPlace_142 : decode cX9_readPlace 142 = .ok (.bipush 9, 2) := by decide +kernel
theorem dX9_readPlace_144 : decode cX9_readPlace 144 = .ok (.invokevirtual 96, 3) := by decide +kernel
theorem dX9_readPlace_147 : decode cX9_readPlace 147 = .ok (.goto 4, 3) := by decide +kernel
theorem dX9_readPlace_150 : decode cX9_readPlace 150 = .ok (.iconst 0, 1) := by decide +kernel
theorem dX9_readPlace_151 : decode cX9_readPlace 151 = .ok (.iastore, 1) := by decide +kernel
theorem dX9_readPlace_152 : decode cX9_readPlace 152 = .ok (.aload_n 0, 1) := by decide +kernel
theorem dX9_readPlace_153 : decode cX9_readPlace 153 = .ok (.dup, 1) := by decide +kernel
theorem dX9_readPlace_154 : decode cX9_readPlace 154 = .ok (.getfield 93, 3) := by decide +kernel
theorem dX9_readPlace_157 : decode cX9_readPlace 157 = .ok (.iconst 1, 1) := by decide +kernel
theorem dX9_readPlace_158 : decode cX9_readPlace 158 = .ok (.iadd, 1) := by decide +kernel
theorem dX9_readPlace_159 : decode cX9_readPlace 159 = .ok (.putfield 93, 3) := by decide +kernel
theorem dX9_readPlace_162 : decode cX9_readPlace 162 = .ok (.return_, 1) := by decide +kernel
set_option maxRecDepth 20000 in
theorem ggX9_fault_X9_readText : GoodIn wsX9_fault wsX9_readText := goodIn_r _ [5, 6, 7, 8, 9, 10, 11, 12, 13, 14, 15, 4, 16, 17, 18, 19, 20, 21, 22, 23, 24, 25, 26, 27, 28, 29, 30, 31, 32, 33, 34, 35, 36, 37, 38, 39, 40, 41, 42, 43, 44, 45, 46, 47, 48, 49, 50, 51, 52, 53, 54, 55, 56, 57, 58, 59, 60, 61, 62, 63] (by decide +kernel) (by decide +kernel)
set_option maxRecDepth 20000 in
theorem gX9_fault_X9_readText : GoodIn wsX9_fault (wsV RX9 110 RX9 yX9_readText wsX9_readText) := goodIn_app (goodIn_of _ (by decide +kernel)) ggX9_fault_X9_readText
theorem dX9_fault_0 : decode cX9_fault 0 = .ok (.aload_n 0, 1) := by decide +kernel
theorem dX9_fault_1 : decode cX9_fault 1 = .ok (.invokevirtual 110, 3) := by decide +kernel
theorem dX9_fault_4 : decode cX9_fault 4 = .ok (.ireturn, 1) := by decide +kernel
set_option maxRecDepth 20000 in
theorem ggX9_ship_X9_readText : GoodIn wsX9_ship wsX9_readText := goodIn_r _ [27, 28, 29, 1, 30, 31, 3, 5, 32, 33, 34, 26, 35, 36, 37, 38, 39, 40, 41, 42, 8, 10, 12, 14, 18, 43, 44, 45, 46, 47, 48, 49, 50, 51, 52, 53, 54, 55, 56, 57, 58, 59, 60, 61, 62, 63, 64, 65, 66, 67, 68, 69, 70, 71, 72, 73, 74, 75, 76, 77] (by decide +kernel) (by decide +kernel)
set_option maxRecDepth 20000 in
theorem gX9_ship_X9_readText : GoodIn wsX9_ship (wsV RX9 110 RX9 yX9_readText wsX9_readText) := goodIn_app (goodIn_of _ (by decide +kernel)) ggX9_ship_X9_readText
theorem dX9_ship_0 : decode cX9_ship 0 = .ok (.aload_n 0, 1) := by decide +kernel
theorem dX9_ship_1 : decode cX9_ship 1 = .ok (.invokevirtual 110, 3) := by decide +kernel
theorem dX9_ship_4 : decode cX9_ship 4 = .ok (.bipush (-9), 2) := by decide +kernel
theorem dX9_ship_6 : decode cX9_ship 6 = .ok (.if_icmp .eq 6, 3) := by decide +kernel
theorem dX9_ship_9 : decode cX9_ship 9 = .ok (.bipush (-3), 2) := by decide +kernel
theorem dX9_ship_11 : decode cX9_ship 11 = .ok (.ireturn, 1) := by decide +kernel
theorem dX9_ship_12 : decode cX9_ship 12 = .ok (.aload_n 0, 1) := by decide +kernel
theorem dX9_ship_13 : decode cX9_ship 13 = .ok (.aload_n 0, 1) := by decide +kernel
theorem dX9_ship_14 : decode cX9_ship 14 = .ok (.getfield 93, 3) := by decide +kernel
theorem dX9_ship_17 : decode cX9_ship 17 = .ok (.putfield 114, 3) := by decide +kernel
theorem dX9_ship_20 : decode cX9_ship 20 = .ok (.aload_n 0, 1) := by decide +kernel
theorem dX9_ship_21 : decode cX9_ship 21 = .ok (.aload_n 0, 1) := by decide +kernel
theorem dX9_ship_22 : decode cX9_ship 22 = .ok (.getfield 100, 3) := by decide +kernel
theorem dX9_ship_25 : decode cX9_ship 25 = .ok (.putfield 117, 3) := by decide +kernel
theorem dX9_ship_28 : decode cX9_ship 28 = .ok (.aload_n 0, 1) := by decide +kernel
theorem dX9_ship_29 : decode cX9_ship 29 = .ok (.aload_n 0, 1) := by decide +kernel
theorem dX9_ship_30 : decode cX9_ship 30 = .ok (.getfield 103, 3) := by decide +kernel
theorem dX9_ship_33 : decode cX9_ship 33 = .ok (.putfield 72, 3) := by decide +kernel
theorem dX9_ship_36 : decode cX9_ship 36 = .ok (.iconst 0, 1) := by decide +kernel
theorem dX9_ship_37 : decode cX9_ship 37 = .ok (.istore_n 1, 1) := by decide +kernel
theorem dX9_ship_38 : decode cX9_ship 38 = .ok (.iload_n 1, 1) := by decide +kernel
theorem dX9_ship_39 : decode cX9_ship 39 = .ok (.aload_n 0, 1) := by decide +kernel
theorem dX9_ship_40 : decode cX9_ship 40 = .ok (.getfield 114, 3) := by decide +kernel
theorem dX9_ship_43 : decode cX9_ship 43 = .ok (.if_icmp .ge 120, 3) := by decide +kernel
theorem dX9_ship_46 : decode cX9_ship 46 = .ok (.aload_n 0, 1) := by decide +kernel
theorem dX9_ship_47 : decode cX9_ship 47 = .ok (.getfield 25, 3) := by decide +kernel
theorem dX9_ship_50 : decode cX9_ship 50 = .ok (.iload_n 1, 1) := by decide +kernel
theorem dX9_ship_51 : decode cX9_ship 51 = .ok (.aload_n 0, 1) := by decide +kernel
theorem dX9_ship_52 : decode cX9_ship 52 = .ok (.getfield 7, 3) := by decide +kernel
theorem dX9_ship_55 : decode cX9_ship 55 = .ok (.iload_n 1, 1) := by decide +kernel
theorem dX9_ship_56 : decode cX9_ship 56 = .ok (.iaload, 1) := by decide +kernel
theorem dX9_ship_57 : decode cX9_ship 57 = .ok (.iastore, 1) := by decide +kernel
theorem dX9_ship_58 : decode cX9_ship 58 = .ok (.aload_n 0, 1) := by decide +kernel
theorem dX9_ship_59 : decode cX9_ship 59 = .ok (.getfield 28, 3) := by decide +kernel
theorem dX9_ship_62 : decode cX9_ship 62 = .ok (.iload_n 1, 1) := by decide +kernel
theorem dX9_ship_63 : decode cX9_ship 63 = .ok (.aload_n 0, 1) := by decide +kernel
theorem dX9_ship_64 : decode cX9_ship 64 = .ok (.getfield 13, 3) := by decide +kernel
theorem dX9_ship_67 : decode cX9_ship 67 = .ok (.iload_n 1, 1) := by decide +kernel
theorem dX9_ship_68 : decode cX9_ship 68 = .ok (.iaload, 1) := by decide +kernel
theorem dX9_ship_69 : decode cX9_ship 69 = .ok (.iastore, 1) := by decide +kernel
theorem dX9_ship_70 : decode cX9_ship 70 = .ok (.aload_n 0, 1) := by decide +kernel
theorem dX9_ship_71 : decode cX9_ship 71 = .ok (.getfield 31, 3) := by decide +kernel
theorem dX9_ship_74 : decode cX9_ship 74 = .ok (.iload_n 1, 1) := by decide +kernel
theorem dX9_ship_75 : decode cX9_ship 75 = .ok (.aload_n 0, 1) := by decide +kernel
theorem dX9_ship_76 : decode cX9_ship 76 = .ok (.getfield 16, 3) := by decide +kernel
theorem dX9_ship_79 : decode cX9_ship 79 = .ok (.iload_n 1, 1) := by decide +kernel
theorem dX9_ship_80 : decode cX9_ship 80 = .ok (.iaload, 1) := by decide +kernel
theorem dX9_ship_81 : decode cX9_ship 81 = .ok (.iastore, 1) := by decide +kernel
theorem dX9_ship_82 : decode cX9_ship 82 = .ok (.aload_n 0, 1) := by decide +kernel
theorem dX9_ship_83 : decode cX9_ship 83 = .ok (.getfield 34, 3) := by decide +kernel
theorem dX9_ship_86 : decode cX9_ship 86 = .ok (.iload_n 1, 1) := by decide +kernel
theorem dX9_ship_87 : decode cX9_ship 87 = .ok (.aload_n 0, 1) := by decide +kernel
theorem dX9_ship_88 : decode cX9_ship 88 = .ok (.getfield 19, 3) := by decide +kernel
theorem dX9_ship_91 : decode cX9_ship 91 = .ok (.iload_n 1, 1) := by decide +kernel
theorem dX9_ship_92 : decode cX9_ship 92 = .ok (.iaload, 1) := by decide +kernel
theorem dX9_ship_93 : decode cX9_ship 93 = .ok (.iastore, 1) := by decide +kernel
theorem dX9_ship_94 : decode cX9_ship 94 = .ok (.aload_n 0, 1) := by decide +kernel
theorem dX9_ship_95 : decode cX9_ship 95 = .ok (.getfield 40, 3) := by decide +kernel
theorem dX9_ship_98 : decode cX9_ship 98 = .ok (.iload_n 1, 1) := by decide +kernel
theorem dX9_ship_99 : decode cX9_ship 99 = .ok (.aload_n 0, 1) := by decide +kernel
theorem dX9_ship_100 : decode cX9_ship 100 = .ok (.getfield 34, 3) := by decide +kernel
theorem dX9_ship_103 : decode cX9_ship 103 = .ok (.iload_n 1, 1) := by decide +kernel
theorem dX9_ship_104 : decode cX9_ship 104 = .ok (.iaload, 1) := by decide +kernel
theorem dX9_ship_105 : decode cX9_ship 105 = .ok (.bipush (-9), 2) := by decide +kernel
theorem dX9_ship_107 : decode cX9_ship 107 = .ok (.if_icmp .ne 9, 3) := by decide +kernel
theorem dX9_ship_110 : decode cX9_ship 110 = .ok (.sipush 200, 3) := by decide +kernel
theorem dX9_ship_113 : decode cX9_ship 113 = .ok (.goto 4, 3) := by decide +kernel
theorem dX9_ship_116 : decode cX9_ship 116 = .ok (.iload_n 1, 1) := by decide +kernel
theorem dX9_ship_117 : decode cX9_ship 117 = .ok (.iastore, 1) := by decide +kernel
theorem dX9_ship_118 : decode cX9_ship 118 = .ok (.aload_n 0, 1) := by decide +kernel
theorem dX9_ship_119 : decode cX9_ship 119 = .ok (.getfield 43, 3) := by decide +kernel
theorem dX9_ship_122 : decode cX9_ship 122 = .ok (.iload_n 1, 1) := by decide +kernel
theorem dX9_ship_123 : decode cX9_ship 123 = .ok (.aload_n 0, 1) := by decide +kernel
theorem dX9_ship_124 : decode cX9_ship 124 = .ok (.getfield 34, 3) := by decide +kernel
theorem dX9_ship_127 : decode cX9_ship 127 = .ok (.iload_n 1, 1) := by decide +kernel
theorem dX9_ship_128 : decode cX9_ship 128 = .ok (.iaload, 1) := by decide +kernel
theorem dX9_ship_129 : decode cX9_ship 129 = .ok (.bipush (-9), 2) := by decide +kernel
theorem dX9_ship_131 : decode cX9_ship 131 = .ok (.if_icmp .ne 7, 3) := by decide +kernel
theorem dX9_ship_134 : decode cX9_ship 134 = .ok (.iconst 0, 1) := by decide +kernel
theorem dX9_ship_135 : decode cX9_ship 135 = .ok (.goto 9, 3) := by decide +kernel
theorem dX9_ship_138 : decode cX9_ship 138 = .ok (.aload_n 0, 1) := by decide +kernel
theorem dX9_ship_139 : decode cX9_ship 139 = .ok (.getfield 25, 3) := by decide +kernel
theorem dX9_ship_142 : decode cX9_ship 142 = .ok (.iload_n 1, 1) := by decide +kernel
theorem dX9_ship_143 : decode cX9_ship 143 = .ok (.iaload, 1) := by decide +kernel
theorem dX9_ship_144 : decode cX9_ship 144 = .ok (.iastore, 1) := by decide +kernel
theorem dX9_ship_145 : decode cX9_ship 145 = .ok (.aload_n 0, 1) := by decide +kernel
theorem dX9_ship_146 : decode cX9_ship 146 = .ok (.getfield 46, 3) := by decide +kernel
theorem dX9_ship_149 : decode cX9_ship 149 = .ok (.iload_n 1, 1) := by decide +kernel
theorem dX9_ship_150 : decode cX9_ship 150 = .ok (.aload_n 0, 1) := by decide +kernel
theorem dX9_ship_151 : decode cX9_ship 151 = .ok (.getfield 22, 3) := by decide +kernel
theorem dX9_ship_154 : decode cX9_ship 154 = .ok (.iload_n 1, 1) := by decide +kernel
theorem dX9_ship_155 : decode cX9_ship 155 = .ok (.iaload, 1) := by decide +kernel
theorem dX9_ship_156 : decode cX9_ship 156 = .ok (.iastore, 1) := by decide +kernel
theorem dX9_ship_157 : decode cX9_ship 157 = .ok (.iinc 1 1, 3) := by decide +kernel
theorem dX9_ship_160 : decode cX9_ship 160 = .ok (.goto (-122), 3) := by decide +kernel
theorem dX9_ship_163 : decode cX9_ship 163 = .ok (.aload_n 0, 1) := by decide +kernel
theorem dX9_ship_164 : decode cX9_ship 164 = .ok (.iconst 0, 1) := by decide +kernel
theorem dX9_ship_165 : decode cX9_ship 165 = .ok (.putfield 120, 3) := by decide +kernel
theorem dX9_ship_168 : decode cX9_ship 168 = .ok (.aload_n 0, 1) := by decide +kernel
theorem dX9_ship_169 : decode cX9_ship 169 = .ok (.iconst 0, 1) := by decide +kernel
theorem dX9_ship_170 : decode cX9_ship 170 = .ok (.putfield 123, 3) := by decide +kernel
theorem dX9_ship_173 : decode cX9_ship 173 = .ok (.aload_n 0, 1) := by decide +kernel
theorem dX9_ship_174 : decode cX9_ship 174 = .ok (.iconst 0, 1) := by decide +kernel
theorem dX9_ship_175 : decode cX9_ship 175 = .ok (.putfield 127, 3) := by decide +kernel
theorem dX9_ship_178 : decode cX9_ship 178 = .ok (.aload_n 0, 1) := by decide +kernel
theorem dX9_ship_179 : decode cX9_ship 179 = .ok (.getfield 59, 3) := by decide +kernel
theorem dX9_ship_182 : decode cX9_ship 182 = .ok (.iconst 0, 1) := by decide +kernel
theorem dX9_ship_183 : decode cX9_ship 183 = .ok (.iconst 0, 1) := by decide +kernel
theorem dX9_ship_184 : decode cX9_ship 184 = .ok (.bastore, 1) := by decide +kernel
theorem dX9_ship_185 : decode cX9_ship 185 = .ok (.aload_n 0, 1) := by decide +kernel
theorem dX9_ship_186 : decode cX9_ship 186 = .ok (.getfield 59, 3) := by decide +kernel
theorem dX9_ship_189 : decode cX9_ship 189 = .ok (.iconst 1, 1) := by decide +kernel
theorem dX9_ship_190 : decode cX9_ship 190 = .ok (.iconst 0, 1) := by decide +kernel
theorem dX9_ship_191 : decode cX9_ship 191 = .ok (.bastore, 1) := by decide +kernel
theorem dX9_ship_192 : decode cX9_ship 192 = .ok (.aload_n 0, 1) := by decide +kernel
theorem dX9_ship_193 : decode cX9_ship 193 = .ok (.getfield 114, 3) := by decide +kernel
theorem dX9_ship_196 : decode cX9_ship 196 = .ok (.ireturn, 1) := by decide +kernel
set_option maxRecDepth 20000 in
theorem ggX9_isPlace_X9_in : GoodIn wsX9_isPlace wsX9_in := goodIn_r _ [5] (by decide +kernel) (by decide +kernel)
set_option maxRecDepth 20000 in
theorem gX9_isPlace_X9_in : GoodIn wsX9_isPlace (va_wsS RX9 78 yX9_in wsX9_in) := goodIn_app (goodIn_of _ (by decide +kernel)) ggX9_isPlace_X9_in
theorem dX9_isPlace_0 : decode cX9_isPlace 0 = .ok (.iload_n 1, 1) := by decide +kernel
theorem dX9_isPlace_1 : decode cX9_isPlace 1 = .ok (.i2l, 1) := by decide +kernel
theorem dX9_isPlace_2 : decode cX9_isPlace 2 = .ok (.lconst 0, 1) := by decide +kernel
theorem dX9_isPlace_3 : decode cX9_isPlace 3 = .ok (.aload_n 0, 1) := by decide +kernel
theorem dX9_isPlace_4 : decode cX9_isPlace 4 = .ok (.getfield 114, 3) := by decide +kernel
theorem dX9_isPlace_7 : decode cX9_isPlace 7 = .ok (.iconst 1, 1) := by decide +kernel
theorem dX9_isPlace_8 : decode cX9_isPlace 8 = .ok (.isub, 1) := by decide +kernel
theorem dX9_isPlace_9 : decode cX9_isPlace 9 = .ok (.i2l, 1) := by decide +kernel
theorem dX9_isPlace_10 : decode cX9_isPlace 10 = .ok (.invokestatic 78, 3) := by decide +kernel
theorem dX9_isPlace_13 : decode cX9_isPlace 13 = .ok (.ireturn, 1) := by decide +kernel
theorem dX9_inside_0 : decode cX9_inside 0 = .ok (.iconst 0, 1) := by decide +kernel
theorem dX9_inside_1 : decode cX9_inside 1 = .ok (.istore_n 3, 1) := by decide +kernel
theorem dX9_inside_2 : decode cX9_inside 2 = .ok (.iload_n 3, 1) := by decide +kernel
theorem dX9_inside_3 : decode cX9_inside 3 = .ok (.aload_n 0, 1) := by decide +kernel
theorem dX9_inside_4 : decode cX9_inside 4 = .ok (.getfield 114, 3) := by decide +kernel
theorem dX9_inside_7 : decode cX9_inside 7 = .ok (.if_icmp .ge 23, 3) := by decide +kernel
theorem dX9_inside_10 : decode cX9_inside 10 = .ok (.aload_n 0, 1) := by decide +kernel
theorem dX9_inside_11 : decode cX9_inside 11 = .ok (.getfield 40, 3) := by decide +kernel
theorem dX9_inside_14 : decode cX9_inside 14 = .ok (.iload_n 1, 1) := by decide +kernel
theorem dX9_inside_15 : decode cX9_inside 15 = .ok (.iload_n 3, 1) := by decide +kernel
theorem dX9_inside_16 : decode cX9_inside 16 = .ok (.iadd, 1) := by decide +kernel
theorem dX9_inside_17 : decode cX9_inside 17 = .ok (.iaload, 1) := by decide +kernel
theorem dX9_inside_18 : decode cX9_inside 18 = .ok (.iload_n 2, 1) := by decide +kernel
theorem dX9_inside_19 : decode cX9_inside 19 = .ok (.if_icmp .ne 5, 3) := by decide +kernel
theorem dX9_inside_22 : decode cX9_inside 22 = .ok (.iload_n 3, 1) := by decide +kernel
theorem dX9_inside_23 : decode cX9_inside 23 = .ok (.ireturn, 1) := by decide +kernel
theorem dX9_inside_24 : decode cX9_inside 24 = .ok (.iinc 3 1, 3) := by decide +kernel
theorem dX9_inside_27 : decode cX9_inside 27 = .ok (.goto (-25), 3) := by decide +kernel
theorem dX9_inside_30 : decode cX9_inside 30 = .ok (.bipush (-9), 2) := by decide +kernel
theorem dX9_inside_32 : decode cX9_inside 32 = .ok (.ireturn, 1) := by decide +kernel
set_option maxRecDepth 20000 in
theorem ggX9_place_X9_isPlace : GoodIn wsX9_place wsX9_isPlace := goodIn_r _ [8, 9, 10, 11, 7, 12, 18, 19, 20, 21, 22, 23, 24, 25, 26, 27, 28, 29, 30, 31, 32, 33, 34, 35, 36, 37, 38, 39, 40, 41, 42, 43, 44, 45, 46, 47, 48, 49, 50, 51, 52] (by decide +kernel) (by decide +kernel)
set_option maxRecDepth 20000 in
theorem gX9_place_X9_isPlace : GoodIn wsX9_place (wsV RX9 130 RX9 yX9_isPlace wsX9_isPlace) := goodIn_app (goodIn_of _ (by decide +kernel)) ggX9_place_X9_isPlace
set_option maxRecDepth 20000 in
theorem ggX9_place_X9_inside : GoodIn wsX9_place wsX9_inside := goodIn_r _ [16, 9, 17, 18, 19, 20, 21, 22, 23, 24, 25, 26, 27, 28, 29, 30, 31, 32, 33, 34, 35, 36, 37, 38, 39, 40, 41, 42, 43, 44, 45, 46, 47, 48, 49, 50, 51, 52] (by decide +kernel) (by decide +kernel)
set_option maxRecDepth 20000 in
theorem gX9_place_X9_inside : GoodIn wsX9_place (wsV RX9 134 RX9 yX9_inside wsX9_inside) := goodIn_app (goodIn_of _ (by decide +kernel)) ggX9_place_X9_inside
theorem dX9_place_0 : decode cX9_place 0 = .ok (.aload_n 0, 1) := by decide +kernel
theorem dX9_place_1 : decode cX9_place 1 = .ok (.iload_n 1, 1) := by decide +kernel
theorem dX9_place_2 : decode cX9_place 2 = .ok (.invokevirtual 130, 3) := by decide +kernel
theorem dX9_place_5 : decode cX9_place 5 = .ok (.ifCond .ne 5, 3) := by decide +kernel
theorem dX9_place_8 : decode cX9_place 8 = .ok (.iconst (-1), 1) := by decide +kernel
theorem dX9_place_9 : decode cX9_place 9 = .ok (.ireturn, 1) := by decide +kernel
theorem dX9_place_10 : decode cX9_place 10 = .ok (.iload_n 2, 1) := by decide +kernel
theorem dX9_place_11 : decode cX9_place 11 = .ok (.tableswitch 57 0 3 #[29, 36, 43, 50], 29) := by decide +kernel
theorem dX9_place_40 : decode cX9_place 40 = .ok (.aload_n 0, 1) := by decide +kernel
theorem dX9_place_41 : decode cX9_place 41 = .ok (.getfield 25, 3) := by decide +kernel
theorem dX9_place_44 : decode cX9_place 44 = .ok (.iload_n 1, 1) := by decide +kernel
theorem dX9_place_45 : decode cX9_place 45 = .ok (.iaload, 1) := by decide +kernel
theorem dX9_place_46 : decode cX9_place 46 = .ok (.ireturn, 1) := by decide +kernel
theorem dX9_place_47 : decode cX9_place 47 = .ok (.aload_n 0, 1) := by decide +kernel
theorem dX9_place_48 : decode cX9_place 48 = .ok (.getfield 28, 3) := by decide +kernel
theorem dX9_place_51 : decode cX9_place 51 = .ok (.iload_n 1, 1) := by decide +kernel
theorem dX9_place_52 : decode cX9_place 52 = .ok (.iaload, 1) := by decide +kernel
theorem dX9_place_53 : decode cX9_place 53 = .ok (.ireturn, 1) := by decide +kernel
theorem dX9_place_54 : decode cX9_place 54 = .ok (.aload_n 0, 1) := by decide +kernel
theorem dX9_place_55 : decode cX9_place 55 = .ok (.getfield 31, 3) := by decide +kernel
theorem dX9_place_58 : decode cX9_place 58 = .ok (.iload_n 1, 1) := by decide +kernel
theorem dX9_place_59 : decode cX9_place 59 = .ok (.iaload, 1) := by decide +kernel
theorem dX9_place_60 : decode cX9_place 60 = .ok (.ireturn, 1) := by decide +kernel
theorem dX9_place_61 : decode cX9_place 61 = .ok (.aload_n 0, 1) := by decide +kernel
theorem dX9_place_62 : decode cX9_place 62 = .ok (.iconst 0, 1) := by decide +kernel
theorem dX9_place_63 : decode cX9_place 63 = .ok (.iload_n 1, 1) := by decide +kernel
theorem dX9_place_64 : decode cX9_place 64 = .ok (.invokevirtual 134, 3) := by decide +kernel
theorem dX9_place_67 : decode cX9_place 67 = .ok (.ireturn, 1) := by decide +kernel
theorem dX9_place_68 : decode cX9_place 68 = .ok (.bipush (-2), 2) := by decide +kernel
theorem dX9_place_70 : decode cX9_place 70 = .ok (.ireturn, 1) := by decide +kernel
set_option maxRecDepth 20000 in
theorem ggX9_timber_X9_isPlace : GoodIn wsX9_timber wsX9_isPlace := goodIn_r _ [9, 10, 11, 12, 8, 13, 14, 15, 16, 17, 18, 19, 20, 21, 22, 23, 24, 25, 26, 27, 28, 29, 30, 31, 32, 33, 34, 35, 36, 37, 38, 39, 40, 41, 42, 43, 44, 45, 46, 47, 48] (by decide +kernel) (by decide +kernel)
set_option maxRecDepth 20000 in
theorem gX9_timber_X9_isPlace : GoodIn wsX9_timber (wsV RX9 130 RX9 yX9_isPlace wsX9_isPlace) := goodIn_app (goodIn_of _ (by decide +kernel)) ggX9_timber_X9_isPlace
theorem dX9_timber_0 : decode cX9_timber 0 = .ok (.aload_n 0, 1) := by decide +kernel
theorem dX9_timber_1 : decode cX9_timber 1 = .ok (.iload_n 1, 1) := by decide +kernel
theorem dX9_timber_2 : decode cX9_timber 2 = .ok (.invokevirtual 130, 3) := by decide +kernel
theorem dX9_timber_5 : decode cX9_timber 5 = .ok (.ifCond .ne 5, 3) := by decide +kernel
theorem dX9_timber_8 : decode cX9_timber 8 = .ok (.iconst (-1), 1) := by decide +kernel
theorem dX9_timber_9 : decode cX9_timber 9 = .ok (.ireturn, 1) := by decide +kernel
theorem dX9_timber_10 : decode cX9_timber 10 = .ok (.iload_n 2, 1) := by decide +kernel
theorem dX9_timber_11 : decode cX9_timber 11 = .ok (.tableswitch 57 0 3 #[29, 36, 43, 50], 29) := by decide +kernel
theorem dX9_timber_40 : decode cX9_timber 40 = .ok (.aload_n 0, 1) := by decide +kernel
theorem dX9_timber_41 : decode cX9_timber 41 = .ok (.getfield 40, 3) := by decide +kernel
theorem dX9_timber_44 : decode cX9_timber 44 = .ok (.iload_n 1, 1) := by decide +kernel
theorem dX9_timber_45 : decode cX9_timber 45 = .ok (.iaload, 1) := by decide +kernel
theorem dX9_timber_46 : decode cX9_timber 46 = .ok (.ireturn, 1) := by decide +kernel
theorem dX9_timber_47 : decode cX9_timber 47 = .ok (.aload_n 0, 1) := by decide +kernel
theorem dX9_timber_48 : decode cX9_timber 48 = .ok (.getfield 43, 3) := by decide +kernel
theorem dX9_timber_51 : decode cX9_timber 51 = .ok (.iload_n 1, 1) := by decide +kernel
theorem dX9_timber_52 : decode cX9_timber 52 = .ok (.iaload, 1) := by decide +kernel
theorem dX9_timber_53 : decode cX9_timber 53 = .ok (.ireturn, 1) := by decide +kernel
theorem dX9_timber_54 : decode cX9_timber 54 = .ok (.aload_n 0, 1) := by decide +kernel
theorem dX9_timber_55 : decode cX9_timber 55 = .ok (.getfield 34, 3) := by decide +kernel
theorem dX9_timber_58 : decode cX9_timber 58 = .ok (.iload_n 1, 1) := by decide +kernel
theorem dX9_timber_59 : decode cX9_timber 59 = .ok (.iaload, 1) := by decide +kernel
theorem dX9_timber_60 : decode cX9_timber 60 = .ok (.ireturn, 1) := by decide +kernel
theorem dX9_timber_61 : decode cX9_timber 61 = .ok (.aload_n 0, 1) := by decide +kernel
theorem dX9_timber_62 : decode cX9_timber 62 = .ok (.getfield 46, 3) := by decide +kernel
theorem dX9_timber_65 : decode cX9_timber 65 = .ok (.iload_n 1, 1) := by decide +kernel
theorem dX9_timber_66 : decode cX9_timber 66 = .ok (.iaload, 1) := by decide +kernel
theorem dX9_timber_67 : decode cX9_timber 67 = .ok (.ireturn, 1) := by decide +kernel
theorem dX9_timber_68 : decode cX9_timber 68 = .ok (.bipush (-2), 2) := by decide +kernel
theorem dX9_timber_70 : decode cX9_timber 70 = .ok (.ireturn, 1) := by decide +kernel
set_option maxRecDepth 20000 in
theorem ggX9_isBorne_X9_inside : GoodIn wsX9_isBorne wsX9_inside := goodIn_r _ [7, 1, 8, 9, 10, 11, 12, 13, 14, 15, 16, 17, 18, 19, 20, 21, 22, 23, 24, 25, 26, 27, 28, 29, 30, 31, 32, 33, 34, 35, 36, 37, 38, 39, 40, 41, 42, 43] (by decide +kernel) (by decide +kernel)
set_option maxRecDepth 20000 in
theorem gX9_isBorne_X9_inside : GoodIn wsX9_isBorne (wsV RX9 134 RX9 yX9_inside wsX9_inside) := goodIn_app (goodIn_of _ (by decide +kernel)) ggX9_isBorne_X9_inside
theorem dX9_isBorne_0 : decode cX9_isBorne 0 = .ok (.iconst 0, 1) := by decide +kernel
theorem dX9_isBorne_1 : decode cX9_isBorne 1 = .ok (.istore_n 3, 1) := by decide +kernel
theorem dX9_isBorne_2 : decode cX9_isBorne 2 = .ok (.iconst 0, 1) := by decide +kernel
theorem dX9_isBorne_3 : decode cX9_isBorne 3 = .ok (.istore 4, 2) := by decide +kernel
theorem dX9_isBorne_5 : decode cX9_isBorne 5 = .ok (.iload 4, 2) := by decide +kernel
theorem dX9_isBorne_7 : decode cX9_isBorne 7 = .ok (.aload_n 0, 1) := by decide +kernel
theorem dX9_isBorne_8 : decode cX9_isBorne 8 = .ok (.getfield 114, 3) := by decide +kernel
theorem dX9_isBorne_11 : decode cX9_isBorne 11 = .ok (.if_icmp .ge 42, 3) := by decide +kernel
theorem dX9_isBorne_14 : decode cX9_isBorne 14 = .ok (.iload_n 3, 1) := by decide +kernel
theorem dX9_isBorne_15 : decode cX9_isBorne 15 = .ok (.ifCond .ne 26, 3) := by decide +kernel
theorem dX9_isBorne_18 : decode cX9_isBorne 18 = .ok (.aload_n 0, 1) := by decide +kernel
theorem dX9_isBorne_19 : decode cX9_isBorne 19 = .ok (.getfield 31, 3) := by decide +kernel
theorem dX9_isBorne_22 : decode cX9_isBorne 22 = .ok (.iload 4, 2) := by decide +kernel
theorem dX9_isBorne_24 : decode cX9_isBorne 24 = .ok (.iaload, 1) := by decide +kernel
theorem dX9_isBorne_25 : decode cX9_isBorne 25 = .ok (.iload_n 2, 1) := by decide +kernel
theorem dX9_isBorne_26 : decode cX9_isBorne 26 = .ok (.if_icmp .ne 19, 3) := by decide +kernel
theorem dX9_isBorne_29 : decode cX9_isBorne 29 = .ok (.aload_n 0, 1) := by decide +kernel
theorem dX9_isBorne_30 : decode cX9_isBorne 30 = .ok (.iload_n 1, 1) := by decide +kernel
theorem dX9_isBorne_31 : decode cX9_isBorne 31 = .ok (.iload 4, 2) := by decide +kernel
theorem dX9_isBorne_33 : decode cX9_isBorne 33 = .ok (.invokevirtual 134, 3) := by decide +kernel
theorem dX9_isBorne_36 : decode cX9_isBorne 36 = .ok (.bipush (-9), 2) := by decide +kernel
theorem dX9_isBorne_38 : decode cX9_isBorne 38 = .ok (.if_icmp .eq 7, 3) := by decide +kernel
theorem dX9_isBorne_41 : decode cX9_isBorne 41 = .ok (.iconst 1, 1) := by decide +kernel
theorem dX9_isBorne_42 : decode cX9_isBorne 42 = .ok (.goto 4, 3) := by decide +kernel
theorem dX9_isBorne_45 : decode cX9_isBorne 45 = .ok (.iconst 0, 1) := by decide +kernel
theorem dX9_isBorne_46 : decode cX9_isBorne 46 = .ok (.istore_n 3, 1) := by decide +kernel
theorem dX9_isBorne_47 : decode cX9_isBorne 47 = .ok (.iinc 4 1, 3) := by decide +kernel
theorem dX9_isBorne_50 : decode cX9_isBorne 50 = .ok (.goto (-45), 3) := by decide +kernel
theorem dX9_isBorne_53 : decode cX9_isBorne 53 = .ok (.iload_n 3, 1) := by decide +kernel
theorem dX9_isBorne_54 : decode cX9_isBorne 54 = .ok (.ireturn, 1) := by decide +kernel
set_option maxRecDepth 20000 in
theorem ggX9_canTake_X9_inside : GoodIn wsX9_canTake wsX9_inside := goodIn_r _ [5, 6, 7, 13, 14, 15, 16, 17, 18, 19, 20, 21, 22, 23, 24, 25, 26, 27, 28, 29, 30, 31, 32, 33, 34, 35, 36, 37, 38, 39, 40, 41, 42, 43, 44, 45, 46, 47] (by decide +kernel) (by decide +kernel)
set_option maxRecDepth 20000 in
theorem gX9_canTake_X9_inside : GoodIn wsX9_canTake (wsV RX9 134 RX9 yX9_inside wsX9_inside) := goodIn_app (goodIn_of _ (by decide +kernel)) ggX9_canTake_X9_inside
set_option maxRecDepth 20000 in
theorem ggX9_canTake_X9_isBorne : GoodIn wsX9_canTake wsX9_isBorne := goodIn_r _ [11, 6, 12, 1, 2, 3, 4, 5, 7, 13, 14, 15, 16, 17, 18, 19, 20, 21, 22, 23, 24, 25, 26, 27, 28, 29, 30, 31, 32, 33, 34, 35, 36, 37, 38, 39, 40, 41, 42, 43, 44, 45, 46, 47] (by decide +kernel) (by decide +kernel)
set_option maxRecDepth 20000 in
theorem gX9_canTake_X9_isBorne : GoodIn wsX9_canTake (wsV RX9 137 RX9 yX9_isBorne wsX9_isBorne) := goodIn_app (goodIn_of _ (by decide +kernel)) ggX9_canTake_X9_isBorne
theorem dX9_canTake_0 : decode cX9_canTake 0 = .ok (.aload_n 0, 1) := by decide +kernel
theorem dX9_canTake_1 : decode cX9_canTake 1 = .ok (.iload_n 1, 1) := by decide +kernel
theorem dX9_canTake_2 : decode cX9_canTake 2 = .ok (.iload_n 2, 1) := by decide +kernel
theorem dX9_canTake_3 : decode cX9_canTake 3 = .ok (.invokevirtual 134, 3) := by decide +kernel
theorem dX9_canTake_6 : decode cX9_canTake 6 = .ok (.bipush (-9), 2) := by decide +kernel
theorem dX9_canTake_8 : decode cX9_canTake 8 = .ok (.if_icmp .eq 16, 3) := by decide +kernel
theorem dX9_canTake_11 : decode cX9_canTake 11 = .ok (.aload_n 0, 1) := by decide +kernel
theorem dX9_canTake_12 : decode cX9_canTake 12 = .ok (.iload_n 1, 1) := by decide +kernel
theorem dX9_canTake_13 : decode cX9_canTake 13 = .ok (.iload_n 2, 1) := by decide +kernel
theorem dX9_canTake_14 : decode cX9_canTake 14 = .ok (.invokevirtual 137, 3) := by decide +kernel
theorem dX9_canTake_17 : decode cX9_canTake 17 = .ok (.ifCond .ne 7, 3) := by decide +kernel
theorem dX9_canTake_20 : decode cX9_canTake 20 = .ok (.iconst 1, 1) := by decide +kernel
theorem dX9_canTake_21 : decode cX9_canTake 21 = .ok (.goto 4, 3) := by decide +kernel
theorem dX9_canTake_24 : decode cX9_canTake 24 = .ok (.iconst 0, 1) := by decide +kernel
theorem dX9_canTake_25 : decode cX9_canTake 25 = .ok (.ireturn, 1) := by decide +kernel
set_option maxRecDepth 20000 in
theorem ggX9_canPut_X9_inside : GoodIn wsX9_canPut wsX9_inside := goodIn_r _ [9, 10, 1, 11, 12, 13, 14, 15, 16, 17, 18, 19, 20, 21, 22, 23, 24, 25, 26, 27, 28, 29, 30, 31, 32, 33, 34, 35, 36, 37, 38, 39, 40, 41, 42, 43, 44, 45] (by decide +kernel) (by decide +kernel)
set_option maxRecDepth 20000 in
theorem gX9_canPut_X9_inside : GoodIn wsX9_canPut (wsV RX9 134 RX9 yX9_inside wsX9_inside) := goodIn_app (goodIn_of _ (by decide +kernel)) ggX9_canPut_X9_inside
theorem dX9_canPut_0 : decode cX9_canPut 0 = .ok (.aload_n 0, 1) := by decide +kernel
theorem dX9_canPut_1 : decode cX9_canPut 1 = .ok (.getfield 40, 3) := by decide +kernel
theorem dX9_canPut_4 : decode cX9_canPut 4 = .ok (.iload_n 1, 1) := by decide +kernel
theorem dX9_canPut_5 : decode cX9_canPut 5 = .ok (.iload_n 2, 1) := by decide +kernel
theorem dX9_canPut_6 : decode cX9_canPut 6 = .ok (.iadd, 1) := by decide +kernel
theorem dX9_canPut_7 : decode cX9_canPut 7 = .ok (.iaload, 1) := by decide +kernel
theorem dX9_canPut_8 : decode cX9_canPut 8 = .ok (.bipush 100, 2) := by decide +kernel
theorem dX9_canPut_10 : decode cX9_canPut 10 = .ok (.if_icmp .ne 62, 3) := by decide +kernel
theorem dX9_canPut_13 : decode cX9_canPut 13 = .ok (.aload_n 0, 1) := by decide +kernel
theorem dX9_canPut_14 : decode cX9_canPut 14 = .ok (.iload_n 1, 1) := by decide +kernel
theorem dX9_canPut_15 : decode cX9_canPut 15 = .ok (.iload_n 3, 1) := by decide +kernel
theorem dX9_canPut_16 : decode cX9_canPut 16 = .ok (.invokevirtual 134, 3) := by decide +kernel
theorem dX9_canPut_19 : decode cX9_canPut 19 = .ok (.bipush (-9), 2) := by decide +kernel
theorem dX9_canPut_21 : decode cX9_canPut 21 = .ok (.if_icmp .ne 51, 3) := by decide +kernel
theorem dX9_canPut_24 : decode cX9_canPut 24 = .ok (.aload_n 0, 1) := by decide +kernel
theorem dX9_canPut_25 : decode cX9_canPut 25 = .ok (.getfield 43, 3) := by decide +kernel
theorem dX9_canPut_28 : decode cX9_canPut 28 = .ok (.iload_n 1, 1) := by decide +kernel
theorem dX9_canPut_29 : decode cX9_canPut 29 = .ok (.iload_n 2, 1) := by decide +kernel
theorem dX9_canPut_30 : decode cX9_canPut 30 = .ok (.iadd, 1) := by decide +kernel
theorem dX9_canPut_31 : decode cX9_canPut 31 = .ok (.iaload, 1) := by decide +kernel
theorem dX9_canPut_32 : decode cX9_canPut 32 = .ok (.aload_n 0, 1) := by decide +kernel
theorem dX9_canPut_33 : decode cX9_canPut 33 = .ok (.getfield 25, 3) := by decide +kernel
theorem dX9_canPut_36 : decode cX9_canPut 36 = .ok (.iload_n 3, 1) := by decide +kernel
theorem dX9_canPut_37 : decode cX9_canPut 37 = .ok (.iaload, 1) := by decide +kernel
theorem dX9_canPut_38 : decode cX9_canPut 38 = .ok (.if_icmp .lt 34, 3) := by decide +kernel
theorem dX9_canPut_41 : decode cX9_canPut 41 = .ok (.aload_n 0, 1) := by decide +kernel
theorem dX9_canPut_42 : decode cX9_canPut 42 = .ok (.getfield 31, 3) := by decide +kernel
theorem dX9_canPut_45 : decode cX9_canPut 45 = .ok (.iload_n 3, 1) := by decide +kernel
