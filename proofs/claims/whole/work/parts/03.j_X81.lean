theorem dX8_share_9 : decode cX8_share 9 = .ok (.iconst (-1), 1) := by decide +kernel
theorem dX8_share_10 : decode cX8_share 10 = .ok (.ireturn, 1) := by decide +kernel
theorem dX8_share_11 : decode cX8_share 11 = .ok (.iconst 0, 1) := by decide +kernel
theorem dX8_share_12 : decode cX8_share 12 = .ok (.istore_n 3, 1) := by decide +kernel
theorem dX8_share_13 : decode cX8_share 13 = .ok (.iconst 0, 1) := by decide +kernel
theorem dX8_share_14 : decode cX8_share 14 = .ok (.istore 4, 2) := by decide +kernel
theorem dX8_share_16 : decode cX8_share 16 = .ok (.iconst 0, 1) := by decide +kernel
theorem dX8_share_17 : decode cX8_share 17 = .ok (.istore 5, 2) := by decide +kernel
theorem dX8_share_19 : decode cX8_share 19 = .ok (.iload 5, 2) := by decide +kernel
theorem dX8_share_21 : decode cX8_share 21 = .ok (.aload_n 0, 1) := by decide +kernel
theorem dX8_share_22 : decode cX8_share 22 = .ok (.getfield 19, 3) := by decide +kernel
theorem dX8_share_25 : decode cX8_share 25 = .ok (.invokevirtual 93, 3) := by decide +kernel
theorem dX8_share_28 : decode cX8_share 28 = .ok (.if_icmp .ge 70, 3) := by decide +kernel
theorem dX8_share_31 : decode cX8_share 31 = .ok (.aload_n 0, 1) := by decide +kernel
theorem dX8_share_32 : decode cX8_share 32 = .ok (.getfield 26, 3) := by decide +kernel
theorem dX8_share_35 : decode cX8_share 35 = .ok (.iload 5, 2) := by decide +kernel
theorem dX8_share_37 : decode cX8_share 37 = .ok (.invokevirtual 109, 3) := by decide +kernel
theorem dX8_share_40 : decode cX8_share 40 = .ok (.istore 6, 2) := by decide +kernel
theorem dX8_share_42 : decode cX8_share 42 = .ok (.iload 6, 2) := by decide +kernel
theorem dX8_share_44 : decode cX8_share 44 = .ok (.bipush (-9), 2) := by decide +kernel
theorem dX8_share_46 : decode cX8_share 46 = .ok (.if_icmp .eq 46, 3) := by decide +kernel
theorem dX8_share_49 : decode cX8_share 49 = .ok (.iload 4, 2) := by decide +kernel
theorem dX8_share_51 : decode cX8_share 51 = .ok (.aload_n 0, 1) := by decide +kernel
theorem dX8_share_52 : decode cX8_share 52 = .ok (.getfield 26, 3) := by decide +kernel
theorem dX8_share_55 : decode cX8_share 55 = .ok (.iload 6, 2) := by decide +kernel
theorem dX8_share_57 : decode cX8_share 57 = .ok (.invokevirtual 115, 3) := by decide +kernel
theorem dX8_share_60 : decode cX8_share 60 = .ok (.iadd, 1) := by decide +kernel
theorem dX8_share_61 : decode cX8_share 61 = .ok (.istore 4, 2) := by decide +kernel
theorem dX8_share_63 : decode cX8_share 63 = .ok (.iload_n 3, 1) := by decide +kernel
theorem dX8_share_64 : decode cX8_share 64 = .ok (.aload_n 0, 1) := by decide +kernel
theorem dX8_share_65 : decode cX8_share 65 = .ok (.getfield 19, 3) := by decide +kernel
theorem dX8_share_68 : decode cX8_share 68 = .ok (.iload 6, 2) := by decide +kernel
theorem dX8_share_70 : decode cX8_share 70 = .ok (.invokevirtual 116, 3) := by decide +kernel
theorem dX8_share_73 : decode cX8_share 73 = .ok (.iload_n 1, 1) := by decide +kernel
theorem dX8_share_74 : decode cX8_share 74 = .ok (.if_icmp .ne 15, 3) := by decide +kernel
theorem dX8_share_77 : decode cX8_share 77 = .ok (.aload_n 0, 1) := by decide +kernel
theorem dX8_share_78 : decode cX8_share 78 = .ok (.getfield 26, 3) := by decide +kernel
theorem dX8_share_81 : decode cX8_share 81 = .ok (.iload 6, 2) := by decide +kernel
theorem dX8_share_83 : decode cX8_share 83 = .ok (.invokevirtual 115, 3) := by decide +kernel
theorem dX8_share_86 : decode cX8_share 86 = .ok (.goto 4, 3) := by decide +kernel
theorem dX8_share_89 : decode cX8_share 89 = .ok (.iconst 0, 1) := by decide +kernel
theorem dX8_share_90 : decode cX8_share 90 = .ok (.iadd, 1) := by decide +kernel
theorem dX8_share_91 : decode cX8_share 91 = .ok (.istore_n 3, 1) := by decide +kernel
theorem dX8_share_92 : decode cX8_share 92 = .ok (.iinc 5 1, 3) := by decide +kernel
theorem dX8_share_95 : decode cX8_share 95 = .ok (.goto (-76), 3) := by decide +kernel
theorem dX8_share_98 : decode cX8_share 98 = .ok (.iload_n 3, 1) := by decide +kernel
theorem dX8_share_99 : decode cX8_share 99 = .ok (.i2l, 1) := by decide +kernel
theorem dX8_share_100 : decode cX8_share 100 = .ok (.iload 4, 2) := by decide +kernel
theorem dX8_share_102 : decode cX8_share 102 = .ok (.i2l, 1) := by decide +kernel
theorem dX8_share_103 : decode cX8_share 103 = .ok (.iload_n 2, 1) := by decide +kernel
theorem dX8_share_104 : decode cX8_share 104 = .ok (.invokestatic 208, 3) := by decide +kernel
theorem dX8_share_107 : decode cX8_share 107 = .ok (.l2i, 1) := by decide +kernel
theorem dX8_share_108 : decode cX8_share 108 = .ok (.ireturn, 1) := by decide +kernel
set_option maxRecDepth 20000 in
theorem ggX8_log_X2_places : GoodIn wsX8_log wsX2_places := goodIn_r _ [8, 9, 150, 151, 152, 153, 154, 155, 156] (by decide +kernel) (by decide +kernel)
set_option maxRecDepth 20000 in
theorem gX8_log_X2_places : GoodIn wsX8_log (wsV RX8 93 RX2 yX2_places wsX2_places) := goodIn_app (goodIn_of _ (by decide +kernel)) ggX8_log_X2_places
set_option maxRecDepth 20000 in
theorem ggX8_log_X3_isSunk : GoodIn wsX8_log wsX3_isSunk := goodIn_r _ [14, 15, 157, 158, 159, 160, 161, 162] (by decide +kernel) (by decide +kernel)
set_option maxRecDepth 20000 in
theorem gX8_log_X3_isSunk : GoodIn wsX8_log (wsV RX8 122 RX3 yX3_isSunk wsX3_isSunk) := goodIn_app (goodIn_of _ (by decide +kernel)) ggX8_log_X3_isSunk
set_option maxRecDepth 20000 in
theorem ggX8_log_X5_rowsTo : GoodIn wsX8_log wsX5_rowsTo := goodIn_r _ [20, 21, 22, 23, 24, 25, 26, 7, 27, 9, 28, 29, 30, 13, 31, 32, 33, 34, 35, 36, 37, 38, 39, 40, 41, 42, 43, 44, 45, 46, 47, 48, 49, 50, 51, 52, 53, 54, 55, 56, 57, 58, 59, 15, 60, 61, 62, 63, 64, 65, 66, 67, 68, 69, 70, 71, 72, 73, 74, 75, 76, 77, 78, 79, 80, 81, 82, 83, 84, 85, 86, 87, 88, 89, 90, 91, 92, 93, 94, 95, 96, 97, 98, 99, 100, 101, 102, 103, 104, 105, 106, 107, 108, 109, 110, 111, 112, 113, 114, 115, 116, 117, 118, 119, 120, 121, 122, 123, 19, 124, 125, 126, 127, 128, 129, 130, 131, 132, 133, 134, 135, 136, 5, 6, 8, 137, 138, 139, 140, 141, 163, 164, 165, 166, 167, 150, 151, 152, 153, 154, 155, 156, 157, 158, 159, 160, 161, 162, 168, 169, 170, 171, 172] (by decide +kernel) (by decide +kernel)
set_option maxRecDepth 20000 in
theorem gX8_log_X5_rowsTo : GoodIn wsX8_log (wsV RX8 212 RX5 yX5_rowsTo wsX5_rowsTo) := goodIn_app (goodIn_of _ (by decide +kernel)) ggX8_log_X5_rowsTo
theorem dX8_log_0 : decode cX8_log 0 = .ok (.iload_n 1, 1) := by decide +kernel
theorem dX8_log_1 : decode cX8_log 1 = .ok (.ifCond .lt 25, 3) := by decide +kernel
theorem dX8_log_4 : decode cX8_log 4 = .ok (.iload_n 1, 1) := by decide +kernel
theorem dX8_log_5 : decode cX8_log 5 = .ok (.iconst 3, 1) := by decide +kernel
theorem dX8_log_6 : decode cX8_log 6 = .ok (.if_icmp .gt 20, 3) := by decide +kernel
theorem dX8_log_9 : decode cX8_log 9 = .ok (.iload_n 2, 1) := by decide +kernel
theorem dX8_log_10 : decode cX8_log 10 = .ok (.ifCond .lt 16, 3) := by decide +kernel
theorem dX8_log_13 : decode cX8_log 13 = .ok (.iload_n 2, 1) := by decide +kernel
theorem dX8_log_14 : decode cX8_log 14 = .ok (.iconst 1, 1) := by decide +kernel
theorem dX8_log_15 : decode cX8_log 15 = .ok (.aload_n 0, 1) := by decide +kernel
theorem dX8_log_16 : decode cX8_log 16 = .ok (.getfield 19, 3) := by decide +kernel
theorem dX8_log_19 : decode cX8_log 19 = .ok (.invokevirtual 93, 3) := by decide +kernel
theorem dX8_log_22 : decode cX8_log 22 = .ok (.ishl, 1) := by decide +kernel
theorem dX8_log_23 : decode cX8_log 23 = .ok (.if_icmp .lt 6, 3) := by decide +kernel
theorem dX8_log_26 : decode cX8_log 26 = .ok (.bipush (-2), 2) := by decide +kernel
theorem dX8_log_28 : decode cX8_log 28 = .ok (.ireturn, 1) := by decide +kernel
theorem dX8_log_29 : decode cX8_log 29 = .ok (.aload_n 0, 1) := by decide +kernel
theorem dX8_log_30 : decode cX8_log 30 = .ok (.getfield 26, 3) := by decide +kernel
theorem dX8_log_33 : decode cX8_log 33 = .ok (.invokevirtual 122, 3) := by decide +kernel
theorem dX8_log_36 : decode cX8_log 36 = .ok (.ifCond .eq 6, 3) := by decide +kernel
theorem dX8_log_39 : decode cX8_log 39 = .ok (.bipush (-3), 2) := by decide +kernel
theorem dX8_log_41 : decode cX8_log 41 = .ok (.ireturn, 1) := by decide +kernel
theorem dX8_log_42 : decode cX8_log 42 = .ok (.aload_n 0, 1) := by decide +kernel
theorem dX8_log_43 : decode cX8_log 43 = .ok (.getfield 59, 3) := by decide +kernel
theorem dX8_log_46 : decode cX8_log 46 = .ok (.iload_n 2, 1) := by decide +kernel
theorem dX8_log_47 : decode cX8_log 47 = .ok (.aload_n 0, 1) := by decide +kernel
theorem dX8_log_48 : decode cX8_log 48 = .ok (.getfield 26, 3) := by decide +kernel
theorem dX8_log_51 : decode cX8_log 51 = .ok (.iload_n 1, 1) := by decide +kernel
theorem dX8_log_52 : decode cX8_log 52 = .ok (.invokevirtual 212, 3) := by decide +kernel
theorem dX8_log_55 : decode cX8_log 55 = .ok (.ireturn, 1) := by decide +kernel
set_option maxRecDepth 20000 in
theorem ggX8_keep_X6_isSlot : GoodIn wsX8_keep wsX6_isSlot := goodIn_r _ [7] (by decide +kernel) (by decide +kernel)
set_option maxRecDepth 20000 in
theorem gX8_keep_X6_isSlot : GoodIn wsX8_keep (wsV RX8 216 RX6 yX6_isSlot wsX6_isSlot) := goodIn_app (goodIn_of _ (by decide +kernel)) ggX8_keep_X6_isSlot
set_option maxRecDepth 20000 in
theorem ggX8_keep_X6_store : GoodIn wsX8_keep wsX6_store := goodIn_r _ [11, 12, 13, 14, 4, 5, 6, 7, 15, 16, 17, 18, 19, 20, 21, 22, 23, 24, 25, 26, 27, 28, 29, 42, 43, 44, 45, 46, 47, 48, 49] (by decide +kernel) (by decide +kernel)
set_option maxRecDepth 20000 in
theorem gX8_keep_X6_store : GoodIn wsX8_keep (wsV RX8 219 RX6 yX6_store wsX6_store) := goodIn_app (goodIn_of _ (by decide +kernel)) ggX8_keep_X6_store
set_option maxRecDepth 20000 in
theorem ggX8_keep_X3_waterInside : GoodIn wsX8_keep wsX3_waterInside := goodIn_r _ [33, 28, 44, 45, 46, 47, 48, 49] (by decide +kernel) (by decide +kernel)
set_option maxRecDepth 20000 in
theorem gX8_keep_X3_waterInside : GoodIn wsX8_keep (wsV RX8 152 RX3 yX3_waterInside wsX3_waterInside) := goodIn_app (goodIn_of _ (by decide +kernel)) ggX8_keep_X3_waterInside
theorem dX8_keep_0 : decode cX8_keep 0 = .ok (.aload_n 0, 1) := by decide +kernel
theorem dX8_keep_1 : decode cX8_keep 1 = .ok (.getfield 43, 3) := by decide +kernel
theorem dX8_keep_4 : decode cX8_keep 4 = .ok (.iload_n 1, 1) := by decide +kernel
theorem dX8_keep_5 : decode cX8_keep 5 = .ok (.invokevirtual 216, 3) := by decide +kernel
theorem dX8_keep_8 : decode cX8_keep 8 = .ok (.ifCond .ne 5, 3) := by decide +kernel
theorem dX8_keep_11 : decode cX8_keep 11 = .ok (.iconst (-1), 1) := by decide +kernel
theorem dX8_keep_12 : decode cX8_keep 12 = .ok (.ireturn, 1) := by decide +kernel
theorem dX8_keep_13 : decode cX8_keep 13 = .ok (.aload_n 0, 1) := by decide +kernel
theorem dX8_keep_14 : decode cX8_keep 14 = .ok (.getfield 43, 3) := by decide +kernel
theorem dX8_keep_17 : decode cX8_keep 17 = .ok (.iload_n 1, 1) := by decide +kernel
theorem dX8_keep_18 : decode cX8_keep 18 = .ok (.aload_n 0, 1) := by decide +kernel
theorem dX8_keep_19 : decode cX8_keep 19 = .ok (.getfield 26, 3) := by decide +kernel
theorem dX8_keep_22 : decode cX8_keep 22 = .ok (.invokevirtual 219, 3) := by decide +kernel
theorem dX8_keep_25 : decode cX8_keep 25 = .ok (.aload_n 0, 1) := by decide +kernel
theorem dX8_keep_26 : decode cX8_keep 26 = .ok (.getfield 26, 3) := by decide +kernel
theorem dX8_keep_29 : decode cX8_keep 29 = .ok (.invokevirtual 152, 3) := by decide +kernel
theorem dX8_keep_32 : decode cX8_keep 32 = .ok (.ireturn, 1) := by decide +kernel
set_option maxRecDepth 20000 in
theorem ggX8_again_X6_isSlot : GoodIn wsX8_again wsX6_isSlot := goodIn_r _ [8] (by decide +kernel) (by decide +kernel)
set_option maxRecDepth 20000 in
theorem gX8_again_X6_isSlot : GoodIn wsX8_again (wsV RX8 216 RX6 yX6_isSlot wsX6_isSlot) := goodIn_app (goodIn_of _ (by decide +kernel)) ggX8_again_X6_isSlot
set_option maxRecDepth 20000 in
theorem ggX8_again_X6_isFilled : GoodIn wsX8_again wsX6_isFilled := goodIn_r _ [12, 13, 14, 5, 6, 7, 8, 54, 55] (by decide +kernel) (by decide +kernel)
set_option maxRecDepth 20000 in
theorem gX8_again_X6_isFilled : GoodIn wsX8_again (wsV RX8 223 RX6 yX6_isFilled wsX6_isFilled) := goodIn_app (goodIn_of _ (by decide +kernel)) ggX8_again_X6_isFilled
set_option maxRecDepth 20000 in
theorem ggX8_again_X6_bringBack : GoodIn wsX8_again wsX6_bringBack := goodIn_r _ [18, 19, 20, 10, 11, 7, 12, 13, 14, 5, 6, 8, 21, 22, 23, 24, 25, 26, 27, 28, 29, 30, 31, 32, 33, 34, 35, 54, 55, 56, 57, 58, 59, 60, 61] (by decide +kernel) (by decide +kernel)
set_option maxRecDepth 20000 in
theorem gX8_again_X6_bringBack : GoodIn wsX8_again (wsV RX8 226 RX6 yX6_bringBack wsX6_bringBack) := goodIn_app (goodIn_of _ (by decide +kernel)) ggX8_again_X6_bringBack
set_option maxRecDepth 20000 in
theorem ggX8_again_X0_forgetAll : GoodIn wsX8_again wsX0_forgetAll := goodIn_r _ [40, 41, 62, 63, 64] (by decide +kernel) (by decide +kernel)
set_option maxRecDepth 20000 in
theorem gX8_again_X0_forgetAll : GoodIn wsX8_again (wsV RX8 89 RX0 yX0_forgetAll wsX0_forgetAll) := goodIn_app (goodIn_of _ (by decide +kernel)) ggX8_again_X0_forgetAll
set_option maxRecDepth 20000 in
theorem ggX8_again_X3_waterInside : GoodIn wsX8_again wsX3_waterInside := goodIn_r _ [45, 34, 56, 57, 58, 59, 60, 61] (by decide +kernel) (by decide +kernel)
set_option maxRecDepth 20000 in
theorem gX8_again_X3_waterInside : GoodIn wsX8_again (wsV RX8 152 RX3 yX3_waterInside wsX3_waterInside) := goodIn_app (goodIn_of _ (by decide +kernel)) ggX8_again_X3_waterInside
theorem dX8_again_0 : decode cX8_again 0 = .ok (.aload_n 0, 1) := by decide +kernel
theorem dX8_again_1 : decode cX8_again 1 = .ok (.getfield 43, 3) := by decide +kernel
theorem dX8_again_4 : decode cX8_again 4 = .ok (.iload_n 1, 1) := by decide +kernel
theorem dX8_again_5 : decode cX8_again 5 = .ok (.invokevirtual 216, 3) := by decide +kernel
theorem dX8_again_8 : decode cX8_again 8 = .ok (.ifCond .ne 5, 3) := by decide +kernel
theorem dX8_again_11 : decode cX8_again 11 = .ok (.iconst (-1), 1) := by decide +kernel
theorem dX8_again_12 : decode cX8_again 12 = .ok (.ireturn, 1) := by decide +kernel
theorem dX8_again_13 : decode cX8_again 13 = .ok (.aload_n 0, 1) := by decide +kernel
theorem dX8_again_14 : decode cX8_again 14 = .ok (.getfield 43, 3) := by decide +kernel
theorem dX8_again_17 : decode cX8_again 17 = .ok (.iload_n 1, 1) := by decide +kernel
theorem dX8_again_18 : decode cX8_again 18 = .ok (.invokevirtual 223, 3) := by decide +kernel
theorem dX8_again_21 : decode cX8_again 21 = .ok (.ifCond .ne 6, 3) := by decide +kernel
theorem dX8_again_24 : decode cX8_again 24 = .ok (.bipush (-3), 2) := by decide +kernel
theorem dX8_again_26 : decode cX8_again 26 = .ok (.ireturn, 1) := by decide +kernel
theorem dX8_again_27 : decode cX8_again 27 = .ok (.aload_n 0, 1) := by decide +kernel
theorem dX8_again_28 : decode cX8_again 28 = .ok (.getfield 43, 3) := by decide +kernel
theorem dX8_again_31 : decode cX8_again 31 = .ok (.iload_n 1, 1) := by decide +kernel
theorem dX8_again_32 : decode cX8_again 32 = .ok (.aload_n 0, 1) := by decide +kernel
theorem dX8_again_33 : decode cX8_again 33 = .ok (.getfield 26, 3) := by decide +kernel
theorem dX8_again_36 : decode cX8_again 36 = .ok (.invokevirtual 226, 3) := by decide +kernel
theorem dX8_again_39 : decode cX8_again 39 = .ok (.aload_n 0, 1) := by decide +kernel
theorem dX8_again_40 : decode cX8_again 40 = .ok (.getfield 36, 3) := by decide +kernel
theorem dX8_again_43 : decode cX8_again 43 = .ok (.invokevirtual 89, 3) := by decide +kernel
theorem dX8_again_46 : decode cX8_again 46 = .ok (.aload_n 0, 1) := by decide +kernel
theorem dX8_again_47 : decode cX8_again 47 = .ok (.getfield 26, 3) := by decide +kernel
theorem dX8_again_50 : decode cX8_again 50 = .ok (.invokevirtual 152, 3) := by decide +kernel
theorem dX8_again_53 : decode cX8_again 53 = .ok (.ireturn, 1) := by decide +kernel
set_option maxRecDepth 20000 in
theorem ggX8_count_X7_size : GoodIn wsX8_count wsX7_size := goodIn_r _ [9, 10, 78, 79] (by decide +kernel) (by decide +kernel)
set_option maxRecDepth 20000 in
theorem gX8_count_X7_size : GoodIn wsX8_count (wsV RX8 71 RX7 yX7_size wsX7_size) := goodIn_app (goodIn_of _ (by decide +kernel)) ggX8_count_X7_size
set_option maxRecDepth 20000 in
theorem ggX8_count_X2_places : GoodIn wsX8_count wsX2_places := goodIn_r _ [15, 16, 80, 81, 82, 83, 84, 85, 86] (by decide +kernel) (by decide +kernel)
set_option maxRecDepth 20000 in
theorem gX8_count_X2_places : GoodIn wsX8_count (wsV RX8 93 RX2 yX2_places wsX2_places) := goodIn_app (goodIn_of _ (by decide +kernel)) ggX8_count_X2_places
set_option maxRecDepth 20000 in
theorem ggX8_count_X2_openPlaces : GoodIn wsX8_count wsX2_openPlaces := goodIn_r _ [20, 16, 21, 22, 23, 24, 25, 26, 80, 81, 82, 83, 84, 85, 86, 87, 88, 89, 90, 91, 92] (by decide +kernel) (by decide +kernel)
set_option maxRecDepth 20000 in
theorem gX8_count_X2_openPlaces : GoodIn wsX8_count (wsV RX8 229 RX2 yX2_openPlaces wsX2_openPlaces) := goodIn_app (goodIn_of _ (by decide +kernel)) ggX8_count_X2_openPlaces
set_option maxRecDepth 20000 in
theorem ggX8_count_J6_bitCount_0f7a4 : GoodIn wsX8_count wsJ6_bitCount_0f7a4 := goodIn_r _ [30, 31, 32, 33] (by decide +kernel) (by decide +kernel)
set_option maxRecDepth 20000 in
theorem gX8_count_J6_bitCount_0f7a4 : GoodIn wsX8_count (va_wsS RX8 232 yJ6_bitCount_0f7a4 wsJ6_bitCount_0f7a4) := goodIn_app (goodIn_of _ (by decide +kernel)) ggX8_count_J6_bitCount_0f7a4
set_option maxRecDepth 20000 in
theorem ggX8_count_X8_timbersThatAre : GoodIn wsX8_count wsX8_timbersThatAre := goodIn_r _ [38, 2, 3, 11, 12, 13, 14, 15, 16, 39, 40, 41, 24, 42, 43, 70, 71, 72, 73, 74, 75, 76, 77, 80, 81, 82, 83, 84, 85, 86, 87, 88, 89, 90, 91, 92] (by decide +kernel) (by decide +kernel)
set_option maxRecDepth 20000 in
theorem gX8_count_X8_timbersThatAre : GoodIn wsX8_count (wsV RX8 237 RX8 yX8_timbersThatAre wsX8_timbersThatAre) := goodIn_app (goodIn_of _ (by decide +kernel)) ggX8_count_X8_timbersThatAre
set_option maxRecDepth 20000 in
theorem ggX8_count_X3_waterInside : GoodIn wsX8_count wsX3_waterInside := goodIn_r _ [47, 48, 87, 88, 89, 90, 91, 92] (by decide +kernel) (by decide +kernel)
set_option maxRecDepth 20000 in
theorem gX8_count_X3_waterInside : GoodIn wsX8_count (wsV RX8 152 RX3 yX3_waterInside wsX3_waterInside) := goodIn_app (goodIn_of _ (by decide +kernel)) ggX8_count_X3_waterInside
set_option maxRecDepth 20000 in
theorem ggX8_count_X3_isSunk : GoodIn wsX8_count wsX3_isSunk := goodIn_r _ [52, 53, 87, 88, 89, 90, 91, 92] (by decide +kernel) (by decide +kernel)
set_option maxRecDepth 20000 in
theorem gX8_count_X3_isSunk : GoodIn wsX8_count (wsV RX8 122 RX3 yX3_isSunk wsX3_isSunk) := goodIn_app (goodIn_of _ (by decide +kernel)) ggX8_count_X3_isSunk
set_option maxRecDepth 20000 in
theorem ggX8_count_X2_pumps : GoodIn wsX8_count wsX2_pumps := goodIn_r _ [57, 58, 80, 81, 82, 83, 84, 85, 86] (by decide +kernel) (by decide +kernel)
set_option maxRecDepth 20000 in
theorem gX8_count_X2_pumps : GoodIn wsX8_count (wsV RX8 240 RX2 yX2_pumps wsX2_pumps) := goodIn_app (goodIn_of _ (by decide +kernel)) ggX8_count_X2_pumps
set_option maxRecDepth 20000 in
theorem ggX8_count_X2_hold : GoodIn wsX8_count wsX2_hold := goodIn_r _ [62, 63, 80, 81, 82, 83, 84, 85, 86] (by decide +kernel) (by decide +kernel)
set_option maxRecDepth 20000 in
theorem gX8_count_X2_hold : GoodIn wsX8_count (wsV RX8 243 RX2 yX2_hold wsX2_hold) := goodIn_app (goodIn_of _ (by decide +kernel)) ggX8_count_X2_hold
set_option maxRecDepth 20000 in
theorem ggX8_count_X0_size : GoodIn wsX8_count wsX0_size := goodIn_r _ [68, 69, 93, 94, 95] (by decide +kernel) (by decide +kernel)
set_option maxRecDepth 20000 in
theorem gX8_count_X0_size : GoodIn wsX8_count (wsV RX8 155 RX0 yX0_size wsX0_size) := goodIn_app (goodIn_of _ (by decide +kernel)) ggX8_count_X0_size
theorem dX8_count_0 : decode cX8_count 0 = .ok (.iload_n 1, 1) := by decide +kernel
theorem dX8_count_1 : decode cX8_count 1 = .ok (.tableswitch 149 0 9 #[55, 63, 71, 86, 93, 101, 109, 125, 133, 141], 55) := by decide +kernel
theorem dX8_count_56 : decode cX8_count 56 = .ok (.aload_n 0, 1) := by decide +kernel
theorem dX8_count_57 : decode cX8_count 57 = .ok (.getfield 10, 3) := by decide +kernel
theorem dX8_count_60 : decode cX8_count 60 = .ok (.invokevirtual 71, 3) := by decide +kernel
theorem dX8_count_63 : decode cX8_count 63 = .ok (.ireturn, 1) := by decide +kernel
theorem dX8_count_64 : decode cX8_count 64 = .ok (.aload_n 0, 1) := by decide +kernel
theorem dX8_count_65 : decode cX8_count 65 = .ok (.getfield 19, 3) := by decide +kernel
theorem dX8_count_68 : decode cX8_count 68 = .ok (.invokevirtual 93, 3) := by decide +kernel
theorem dX8_count_71 : decode cX8_count 71 = .ok (.ireturn, 1) := by decide +kernel
theorem dX8_count_72 : decode cX8_count 72 = .ok (.aload_n 0, 1) := by decide +kernel
theorem dX8_count_73 : decode cX8_count 73 = .ok (.getfield 19, 3) := by decide +kernel
theorem dX8_count_76 : decode cX8_count 76 = .ok (.aload_n 0, 1) := by decide +kernel
theorem dX8_count_77 : decode cX8_count 77 = .ok (.getfield 26, 3) := by decide +kernel
theorem dX8_count_80 : decode cX8_count 80 = .ok (.invokevirtual 229, 3) := by decide +kernel
theorem dX8_count_83 : decode cX8_count 83 = .ok (.invokestatic 232, 3) := by decide +kernel
theorem dX8_count_86 : decode cX8_count 86 = .ok (.ireturn, 1) := by decide +kernel
theorem dX8_count_87 : decode cX8_count 87 = .ok (.aload_n 0, 1) := by decide +kernel
theorem dX8_count_88 : decode cX8_count 88 = .ok (.bipush 100, 2) := by decide +kernel
theorem dX8_count_90 : decode cX8_count 90 = .ok (.invokevirtual 237, 3) := by decide +kernel
theorem dX8_count_93 : decode cX8_count 93 = .ok (.ireturn, 1) := by decide +kernel
theorem dX8_count_94 : decode cX8_count 94 = .ok (.aload_n 0, 1) := by decide +kernel
theorem dX8_count_95 : decode cX8_count 95 = .ok (.sipush 200, 3) := by decide +kernel
theorem dX8_count_98 : decode cX8_count 98 = .ok (.invokevirtual 237, 3) := by decide +kernel
theorem dX8_count_101 : decode cX8_count 101 = .ok (.ireturn, 1) := by decide +kernel
theorem dX8_count_102 : decode cX8_count 102 = .ok (.aload_n 0, 1) := by decide +kernel
theorem dX8_count_103 : decode cX8_count 103 = .ok (.getfield 26, 3) := by decide +kernel
theorem dX8_count_106 : decode cX8_count 106 = .ok (.invokevirtual 152, 3) := by decide +kernel
theorem dX8_count_109 : decode cX8_count 109 = .ok (.ireturn, 1) := by decide +kernel
theorem dX8_count_110 : decode cX8_count 110 = .ok (.aload_n 0, 1) := by decide +kernel
theorem dX8_count_111 : decode cX8_count 111 = .ok (.getfield 26, 3) := by decide +kernel
theorem dX8_count_114 : decode cX8_count 114 = .ok (.invokevirtual 122, 3) := by decide +kernel
theorem dX8_count_117 : decode cX8_count 117 = .ok (.ifCond .eq 7, 3) := by decide +kernel
theorem dX8_count_120 : decode cX8_count 120 = .ok (.iconst 1, 1) := by decide +kernel
theorem dX8_count_121 : decode cX8_count 121 = .ok (.goto 4, 3) := by decide +kernel
theorem dX8_count_124 : decode cX8_count 124 = .ok (.iconst 0, 1) := by decide +kernel
theorem dX8_count_125 : decode cX8_count 125 = .ok (.ireturn, 1) := by decide +kernel
theorem dX8_count_126 : decode cX8_count 126 = .ok (.aload_n 0, 1) := by decide +kernel
theorem dX8_count_127 : decode cX8_count 127 = .ok (.getfield 19, 3) := by decide +kernel
theorem dX8_count_130 : decode cX8_count 130 = .ok (.invokevirtual 240, 3) := by decide +kernel
theorem dX8_count_133 : decode cX8_count 133 = .ok (.ireturn, 1) := by decide +kernel
theorem dX8_count_134 : decode cX8_count 134 = .ok (.aload_n 0, 1) := by decide +kernel
theorem dX8_count_135 : decode cX8_count 135 = .ok (.getfield 19, 3) := by decide +kernel
theorem dX8_count_138 : decode cX8_count 138 = .ok (.invokevirtual 243, 3) := by decide +kernel
theorem dX8_count_141 : decode cX8_count 141 = .ok (.ireturn, 1) := by decide +kernel
theorem dX8_count_142 : decode cX8_count 142 = .ok (.aload_n 0, 1) := by decide +kernel
theorem dX8_count_143 : decode cX8_count 143 = .ok (.getfield 36, 3) := by decide +kernel
theorem dX8_count_146 : decode cX8_count 146 = .ok (.invokevirtual 155, 3) := by decide +kernel
theorem dX8_count_149 : decode cX8_count 149 = .ok (.ireturn, 1) := by decide +kernel
theorem dX8_count_150 : decode cX8_count 150 = .ok (.bipush (-2), 2) := by decide +kernel
theorem dX8_count_152 : decode cX8_count 152 = .ok (.ireturn, 1) := by decide +kernel
set_option maxRecDepth 20000 in
theorem ggX8_bringInto_X0_remember : GoodIn wsX8_bringInto wsX0_remember := goodIn_r _ [8, 9, 10, 11, 12, 13, 14, 15, 16, 17, 18, 7, 19, 20, 21, 22, 23, 24, 25, 26, 27, 28, 29, 30, 31, 32, 33, 34, 66, 67, 68, 69, 70, 71, 72, 73, 74] (by decide +kernel) (by decide +kernel)
set_option maxRecDepth 20000 in
theorem gX8_bringInto_X0_remember : GoodIn wsX8_bringInto (wsV RX8 130 RX0 yX0_remember wsX0_remember) := goodIn_app (goodIn_of _ (by decide +kernel)) ggX8_bringInto_X0_remember
set_option maxRecDepth 20000 in
theorem ggX8_bringInto_X2_bringInto : GoodIn wsX8_bringInto wsX2_bringInto := goodIn_r _ [39, 40, 41, 42, 23, 43, 25, 32, 44, 45, 46, 38, 47, 48, 49, 50, 51, 52, 53, 30, 69, 70, 71, 72, 73, 74, 75, 76, 77, 78, 79, 80, 81] (by decide +kernel) (by decide +kernel)
set_option maxRecDepth 20000 in
theorem gX8_bringInto_X2_bringInto : GoodIn wsX8_bringInto (wsV RX8 246 RX2 yX2_bringInto wsX2_bringInto) := goodIn_app (goodIn_of _ (by decide +kernel)) ggX8_bringInto_X2_bringInto
set_option maxRecDepth 20000 in
theorem ggX8_bringInto_X3_lengthOf : GoodIn wsX8_bringInto wsX3_lengthOf := goodIn_r _ [57, 30, 69, 70, 71, 72, 73, 74] (by decide +kernel) (by decide +kernel)
set_option maxRecDepth 20000 in
theorem gX8_bringInto_X3_lengthOf : GoodIn wsX8_bringInto (wsV RX8 115 RX3 yX3_lengthOf wsX3_lengthOf) := goodIn_app (goodIn_of _ (by decide +kernel)) ggX8_bringInto_X3_lengthOf
theorem dX8_bringInto_0 : decode cX8_bringInto 0 = .ok (.aload_n 0, 1) := by decide +kernel
theorem dX8_bringInto_1 : decode cX8_bringInto 1 = .ok (.getfield 36, 3) := by decide +kernel
theorem dX8_bringInto_4 : decode cX8_bringInto 4 = .ok (.aload_n 0, 1) := by decide +kernel
theorem dX8_bringInto_5 : decode cX8_bringInto 5 = .ok (.getfield 26, 3) := by decide +kernel
theorem dX8_bringInto_8 : decode cX8_bringInto 8 = .ok (.invokevirtual 130, 3) := by decide +kernel
theorem dX8_bringInto_11 : decode cX8_bringInto 11 = .ok (.aload_n 0, 1) := by decide +kernel
theorem dX8_bringInto_12 : decode cX8_bringInto 12 = .ok (.getfield 19, 3) := by decide +kernel
theorem dX8_bringInto_15 : decode cX8_bringInto 15 = .ok (.iload_n 1, 1) := by decide +kernel
theorem dX8_bringInto_16 : decode cX8_bringInto 16 = .ok (.iload_n 2, 1) := by decide +kernel
theorem dX8_bringInto_17 : decode cX8_bringInto 17 = .ok (.aload_n 0, 1) := by decide +kernel
theorem dX8_bringInto_18 : decode cX8_bringInto 18 = .ok (.getfield 26, 3) := by decide +kernel
theorem dX8_bringInto_21 : decode cX8_bringInto 21 = .ok (.invokevirtual 246, 3) := by decide +kernel
theorem dX8_bringInto_24 : decode cX8_bringInto 24 = .ok (.aload_n 0, 1) := by decide +kernel
theorem dX8_bringInto_25 : decode cX8_bringInto 25 = .ok (.getfield 26, 3) := by decide +kernel
theorem dX8_bringInto_28 : decode cX8_bringInto 28 = .ok (.iload_n 1, 1) := by decide +kernel
theorem dX8_bringInto_29 : decode cX8_bringInto 29 = .ok (.invokevirtual 115, 3) := by decide +kernel
theorem dX8_bringInto_32 : decode cX8_bringInto 32 = .ok (.ireturn, 1) := by decide +kernel
set_option maxRecDepth 20000 in
theorem ggX8_refusalOfBest_X3_isSunk : GoodIn wsX8_refusalOfBest wsX3_isSunk := goodIn_r _ [6, 7, 16, 17, 18, 19, 20, 21] (by decide +kernel) (by decide +kernel)
set_option maxRecDepth 20000 in
theorem gX8_refusalOfBest_X3_isSunk : GoodIn wsX8_refusalOfBest (wsV RX8 122 RX3 yX3_isSunk wsX3_isSunk) := goodIn_app (goodIn_of _ (by decide +kernel)) ggX8_refusalOfBest_X3_isSunk
theorem dX8_refusalOfBest_0 : decode cX8_refusalOfBest 0 = .ok (.iload_n 1, 1) := by decide +kernel
theorem dX8_refusalOfBest_1 : decode cX8_refusalOfBest 1 = .ok (.ifCond .lt 8, 3) := by decide +kernel
theorem dX8_refusalOfBest_4 : decode cX8_refusalOfBest 4 = .ok (.iload_n 1, 1) := by decide +kernel
theorem dX8_refusalOfBest_5 : decode cX8_refusalOfBest 5 = .ok (.iconst 2, 1) := by decide +kernel
theorem dX8_refusalOfBest_6 : decode cX8_refusalOfBest 6 = .ok (.if_icmp .le 6, 3) := by decide +kernel
theorem dX8_refusalOfBest_9 : decode cX8_refusalOfBest 9 = .ok (.bipush (-2), 2) := by decide +kernel
theorem dX8_refusalOfBest_11 : decode cX8_refusalOfBest 11 = .ok (.ireturn, 1) := by decide +kernel
theorem dX8_refusalOfBest_12 : decode cX8_refusalOfBest 12 = .ok (.aload_n 0, 1) := by decide +kernel
theorem dX8_refusalOfBest_13 : decode cX8_refusalOfBest 13 = .ok (.getfield 26, 3) := by decide +kernel
theorem dX8_refusalOfBest_16 : decode cX8_refusalOfBest 16 = .ok (.invokevirtual 122, 3) := by decide +kernel
theorem dX8_refusalOfBest_19 : decode cX8_refusalOfBest 19 = .ok (.ifCond .eq 8, 3) := by decide +kernel
theorem dX8_refusalOfBest_22 : decode cX8_refusalOfBest 22 = .ok (.bipush (-3), 2) := by decide +kernel
theorem dX8_refusalOfBest_24 : decode cX8_refusalOfBest 24 = .ok (.goto 4, 3) := by decide +kernel
theorem dX8_refusalOfBest_27 : decode cX8_refusalOfBest 27 = .ok (.iconst 0, 1) := by decide +kernel
theorem dX8_refusalOfBest_28 : decode cX8_refusalOfBest 28 = .ok (.ireturn, 1) := by decide +kernel
set_option maxRecDepth 20000 in
theorem ggX8_refusalOfPort_X3_isSunk : GoodIn wsX8_refusalOfPort wsX3_isSunk := goodIn_r _ [6, 7, 16, 17, 18, 19, 20, 21] (by decide +kernel) (by decide +kernel)
set_option maxRecDepth 20000 in
theorem gX8_refusalOfPort_X3_isSunk : GoodIn wsX8_refusalOfPort (wsV RX8 122 RX3 yX3_isSunk wsX3_isSunk) := goodIn_app (goodIn_of _ (by decide +kernel)) ggX8_refusalOfPort_X3_isSunk
theorem dX8_refusalOfPort_0 : decode cX8_refusalOfPort 0 = .ok (.iload_n 1, 1) := by decide +kernel
theorem dX8_refusalOfPort_1 : decode cX8_refusalOfPort 1 = .ok (.iconst 1, 1) := by decide +kernel
theorem dX8_refusalOfPort_2 : decode cX8_refusalOfPort 2 = .ok (.if_icmp .lt 9, 3) := by decide +kernel
theorem dX8_refusalOfPort_5 : decode cX8_refusalOfPort 5 = .ok (.iload_n 1, 1) := by decide +kernel
theorem dX8_refusalOfPort_6 : decode cX8_refusalOfPort 6 = .ok (.bipush 99, 2) := by decide +kernel
theorem dX8_refusalOfPort_8 : decode cX8_refusalOfPort 8 = .ok (.if_icmp .le 6, 3) := by decide +kernel
theorem dX8_refusalOfPort_11 : decode cX8_refusalOfPort 11 = .ok (.bipush (-2), 2) := by decide +kernel
theorem dX8_refusalOfPort_13 : decode cX8_refusalOfPort 13 = .ok (.ireturn, 1) := by decide +kernel
theorem dX8_refusalOfPort_14 : decode cX8_refusalOfPort 14 = .ok (.aload_n 0, 1) := by decide +kernel
theorem dX8_refusalOfPort_15 : decode cX8_refusalOfPort 15 = .ok (.getfield 26, 3) := by decide +kernel
theorem dX8_refusalOfPort_18 : decode cX8_refusalOfPort 18 = .ok (.invokevirtual 122, 3) := by decide +kernel
theorem dX8_refusalOfPort_21 : decode cX8_refusalOfPort 21 = .ok (.ifCond .eq 8, 3) := by decide +kernel
theorem dX8_refusalOfPort_24 : decode cX8_refusalOfPort 24 = .ok (.bipush (-3), 2) := by decide +kernel
theorem dX8_refusalOfPort_26 : decode cX8_refusalOfPort 26 = .ok (.goto 4, 3) := by decide +kernel
theorem dX8_refusalOfPort_29 : decode cX8_refusalOfPort 29 = .ok (.iconst 0, 1) := by decide +kernel
theorem dX8_refusalOfPort_30 : decode cX8_refusalOfPort 30 = .ok (.ireturn, 1) := by decide +kernel
set_option maxRecDepth 20000 in
theorem ggX8_timbersThatAre_X2_places : GoodIn wsX8_timbersThatAre wsX2_places := goodIn_r _ [7, 8, 23, 24, 25, 26, 27, 28, 29] (by decide +kernel) (by decide +kernel)
set_option maxRecDepth 20000 in
theorem gX8_timbersThatAre_X2_places : GoodIn wsX8_timbersThatAre (wsV RX8 93 RX2 yX2_places wsX2_places) := goodIn_app (goodIn_of _ (by decide +kernel)) ggX8_timbersThatAre_X2_places
set_option maxRecDepth 20000 in
theorem ggX8_timbersThatAre_X3_whereIs : GoodIn wsX8_timbersThatAre wsX3_whereIs := goodIn_r _ [13, 14, 30, 31, 32, 33, 34, 35] (by decide +kernel) (by decide +kernel)
set_option maxRecDepth 20000 in
theorem gX8_timbersThatAre_X3_whereIs : GoodIn wsX8_timbersThatAre (wsV RX8 112 RX3 yX3_whereIs wsX3_whereIs) := goodIn_app (goodIn_of _ (by decide +kernel)) ggX8_timbersThatAre_X3_whereIs
theorem dX8_timbersThatAre_0 : decode cX8_timbersThatAre 0 = .ok (.iconst 0, 1) := by decide +kernel
theorem dX8_timbersThatAre_1 : decode cX8_timbersThatAre 1 = .ok (.istore_n 2, 1) := by decide +kernel
theorem dX8_timbersThatAre_2 : decode cX8_timbersThatAre 2 = .ok (.iconst 0, 1) := by decide +kernel
theorem dX8_timbersThatAre_3 : decode cX8_timbersThatAre 3 = .ok (.istore_n 3, 1) := by decide +kernel
theorem dX8_timbersThatAre_4 : decode cX8_timbersThatAre 4 = .ok (.iload_n 3, 1) := by decide +kernel
theorem dX8_timbersThatAre_5 : decode cX8_timbersThatAre 5 = .ok (.aload_n 0, 1) := by decide +kernel
theorem dX8_timbersThatAre_6 : decode cX8_timbersThatAre 6 = .ok (.getfield 19, 3) := by decide +kernel
theorem dX8_timbersThatAre_9 : decode cX8_timbersThatAre 9 = .ok (.invokevirtual 93, 3) := by decide +kernel
theorem dX8_timbersThatAre_12 : decode cX8_timbersThatAre 12 = .ok (.if_icmp .ge 24, 3) := by decide +kernel
theorem dX8_timbersThatAre_15 : decode cX8_timbersThatAre 15 = .ok (.aload_n 0, 1) := by decide +kernel
theorem dX8_timbersThatAre_16 : decode cX8_timbersThatAre 16 = .ok (.getfield 26, 3) := by decide +kernel
theorem dX8_timbersThatAre_19 : decode cX8_timbersThatAre 19 = .ok (.iload_n 3, 1) := by decide +kernel
theorem dX8_timbersThatAre_20 : decode cX8_timbersThatAre 20 = .ok (.invokevirtual 112, 3) := by decide +kernel
theorem dX8_timbersThatAre_23 : decode cX8_timbersThatAre 23 = .ok (.iload_n 1, 1) := by decide +kernel
theorem dX8_timbersThatAre_24 : decode cX8_timbersThatAre 24 = .ok (.if_icmp .ne 6, 3) := by decide +kernel
theorem dX8_timbersThatAre_27 : decode cX8_timbersThatAre 27 = .ok (.iinc 2 1, 3) := by decide +kernel
theorem dX8_timbersThatAre_30 : decode cX8_timbersThatAre 30 = .ok (.iinc 3 1, 3) := by decide +kernel
theorem dX8_timbersThatAre_33 : decode cX8_timbersThatAre 33 = .ok (.goto (-29), 3) := by decide +kernel
theorem dX8_timbersThatAre_36 : decode cX8_timbersThatAre 36 = .ok (.iload_n 2, 1) := by decide +kernel
theorem dX8_timbersThatAre_37 : decode cX8_timbersThatAre 37 = .ok (.ireturn, 1) := by decide +kernel
set_option maxRecDepth 20000 in
theorem ggX8_leastTerms_X8_commonDivisor : GoodIn wsX8_leastTerms wsX8_commonDivisor := goodIn_r _ [4] (by decide +kernel) (by decide +kernel)
set_option maxRecDepth 20000 in
theorem gX8_leastTerms_X8_commonDivisor : GoodIn wsX8_leastTerms (va_wsS RX8 249 yX8_commonDivisor wsX8_commonDivisor) := goodIn_app (goodIn_of _ (by decide +kernel)) ggX8_leastTerms_X8_commonDivisor
theorem dX8_leastTerms_0 : decode cX8_leastTerms 0 = .ok (.lload_n 0, 1) := by decide +kernel
theorem dX8_leastTerms_1 : decode cX8_leastTerms 1 = .ok (.lconst 1, 1) := by decide +kernel
theorem dX8_leastTerms_2 : decode cX8_leastTerms 2 = .ok (.lcmp, 1) := by decide +kernel
theorem dX8_leastTerms_3 : decode cX8_leastTerms 3 = .ok (.ifCond .lt 9, 3) := by decide +kernel
theorem dX8_leastTerms_6 : decode cX8_leastTerms 6 = .ok (.lload_n 2, 1) := by decide +kernel
theorem dX8_leastTerms_7 : decode cX8_leastTerms 7 = .ok (.lconst 1, 1) := by decide +kernel
theorem dX8_leastTerms_8 : decode cX8_leastTerms 8 = .ok (.lcmp, 1) := by decide +kernel
theorem dX8_leastTerms_9 : decode cX8_leastTerms 9 = .ok (.ifCond .ge 14, 3) := by decide +kernel
theorem dX8_leastTerms_12 : decode cX8_leastTerms 12 = .ok (.iload 4, 2) := by decide +kernel
theorem dX8_leastTerms_14 : decode cX8_leastTerms 14 = .ok (.ifCond .eq 7, 3) := by decide +kernel
theorem dX8_leastTerms_17 : decode cX8_leastTerms 17 = .ok (.lconst 0, 1) := by decide +kernel
theorem dX8_leastTerms_18 : decode cX8_leastTerms 18 = .ok (.goto 4, 3) := by decide +kernel
theorem dX8_leastTerms_21 : decode cX8_leastTerms 21 = .ok (.lconst 1, 1) := by decide +kernel
theorem dX8_leastTerms_22 : decode cX8_leastTerms 22 = .ok (.lreturn, 1) := by decide +kernel
theorem dX8_leastTerms_23 : decode cX8_leastTerms 23 = .ok (.lload_n 0, 1) := by decide +kernel
theorem dX8_leastTerms_24 : decode cX8_leastTerms 24 = .ok (.lload_n 2, 1) := by decide +kernel
theorem dX8_leastTerms_25 : decode cX8_leastTerms 25 = .ok (.invokestatic 249, 3) := by decide +kernel
theorem dX8_leastTerms_28 : decode cX8_leastTerms 28 = .ok (.lstore 5, 2) := by decide +kernel
theorem dX8_leastTerms_30 : decode cX8_leastTerms 30 = .ok (.lload 5, 2) := by decide +kernel
theorem dX8_leastTerms_32 : decode cX8_leastTerms 32 = .ok (.lconst 1, 1) := by decide +kernel
theorem dX8_leastTerms_33 : decode cX8_leastTerms 33 = .ok (.lcmp, 1) := by decide +kernel
theorem dX8_leastTerms_34 : decode cX8_leastTerms 34 = .ok (.ifCond .ge 14, 3) := by decide +kernel
theorem dX8_leastTerms_37 : decode cX8_leastTerms 37 = .ok (.iload 4, 2) := by decide +kernel
theorem dX8_leastTerms_39 : decode cX8_leastTerms 39 = .ok (.ifCond .eq 7, 3) := by decide +kernel
theorem dX8_leastTerms_42 : decode cX8_leastTerms 42 = .ok (.lload_n 0, 1) := by decide +kernel
theorem dX8_leastTerms_43 : decode cX8_leastTerms 43 = .ok (.goto 4, 3) := by decide +kernel
theorem dX8_leastTerms_46 : decode cX8_leastTerms 46 = .ok (.lload_n 2, 1) := by decide +kernel
theorem dX8_leastTerms_47 : decode cX8_leastTerms 47 = .ok (.lreturn, 1) := by decide +kernel
theorem dX8_leastTerms_48 : decode cX8_leastTerms 48 = .ok (.iload 4, 2) := by decide +kernel
theorem dX8_leastTerms_50 : decode cX8_leastTerms 50 = .ok (.ifCond .eq 7, 3) := by decide +kernel
theorem dX8_leastTerms_53 : decode cX8_leastTerms 53 = .ok (.lload_n 0, 1) := by decide +kernel
theorem dX8_leastTerms_54 : decode cX8_leastTerms 54 = .ok (.goto 4, 3) := by decide +kernel
theorem dX8_leastTerms_57 : decode cX8_leastTerms 57 = .ok (.lload_n 2, 1) := by decide +kernel
theorem dX8_leastTerms_58 : decode cX8_leastTerms 58 = .ok (.lload 5, 2) := by decide +kernel
theorem dX8_leastTerms_60 : decode cX8_leastTerms 60 = .ok (.ldiv, 1) := by decide +kernel
theorem dX8_leastTerms_61 : decode cX8_leastTerms 61 = .ok (.lreturn, 1) := by decide +kernel
theorem dX8_commonDivisor_0 : decode cX8_commonDivisor 0 = .ok (.lload_n 0, 1) := by decide +kernel
theorem dX8_commonDivisor_1 : decode cX8_commonDivisor 1 = .ok (.lstore 4, 2) := by decide +kernel
theorem dX8_commonDivisor_3 : decode cX8_commonDivisor 3 = .ok (.lload_n 2, 1) := by decide +kernel
theorem dX8_commonDivisor_4 : decode cX8_commonDivisor 4 = .ok (.lstore 6, 2) := by decide +kernel
theorem dX8_commonDivisor_6 : decode cX8_commonDivisor 6 = .ok (.iconst 0, 1) := by decide +kernel
theorem dX8_commonDivisor_7 : decode cX8_commonDivisor 7 = .ok (.istore 8, 2) := by decide +kernel
theorem dX8_commonDivisor_9 : decode cX8_commonDivisor 9 = .ok (.iload 8, 2) := by decide +kernel
theorem dX8_commonDivisor_11 : decode cX8_commonDivisor 11 = .ok (.bipush 100, 2) := by decide +kernel
theorem dX8_commonDivisor_13 : decode cX8_commonDivisor 13 = .ok (.if_icmp .ge 31, 3) := by decide +kernel
theorem dX8_commonDivisor_16 : decode cX8_commonDivisor 16 = .ok (.lload 6, 2) := by decide +kernel
theorem dX8_commonDivisor_18 : decode cX8_commonDivisor 18 = .ok (.lconst 0, 1) := by decide +kernel
theorem dX8_commonDivisor_19 : decode cX8_commonDivisor 19 = .ok (.lcmp, 1) := by decide +kernel
theorem dX8_commonDivisor_20 : decode cX8_commonDivisor 20 = .ok (.ifCond .eq 24, 3) := by decide +kernel
theorem dX8_commonDivisor_23 : decode cX8_commonDivisor 23 = .ok (.lload 4, 2) := by decide +kernel
theorem dX8_commonDivisor_25 : decode cX8_commonDivisor 25 = .ok (.lload 6, 2) := by decide +kernel
theorem dX8_commonDivisor_27 : decode cX8_commonDivisor 27 = .ok (.lrem, 1) := by decide +kernel
theorem dX8_commonDivisor_28 : decode cX8_commonDivisor 28 = .ok (.lstore 9, 2) := by decide +kernel
theorem dX8_commonDivisor_30 : decode cX8_commonDivisor 30 = .ok (.lload 6, 2) := by decide +kernel
theorem dX8_commonDivisor_32 : decode cX8_commonDivisor 32 = .ok (.lstore 4, 2) := by decide +kernel
theorem dX8_commonDivisor_34 : decode cX8_commonDivisor 34 = .ok (.lload 9, 2) := by decide +kernel
theorem dX8_commonDivisor_36 : decode cX8_commonDivisor 36 = .ok (.lstore 6, 2) := by decide +kernel
theorem dX8_commonDivisor_38 : decode cX8_commonDivisor 38 = .ok (.iinc 8 1, 3) := by decide +kernel
theorem dX8_commonDivisor_41 : decode cX8_commonDivisor 41 = .ok (.goto (-32), 3) := by decide +kernel
theorem dX8_commonDivisor_44 : decode cX8_commonDivisor 44 = .ok (.lload 4, 2) := by decide +kernel
theorem dX8_commonDivisor_46 : decode cX8_commonDivisor 46 = .ok (.lreturn, 1) := by decide +kernel
