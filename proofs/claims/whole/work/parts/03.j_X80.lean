set_option maxRecDepth 20000 in
theorem ggX8_init_X7_init : GoodIn wsX8_init wsX7_init := goodIn_r _ [34, 35, 2, 3, 36, 37, 38, 107, 108] (by decide +kernel) (by decide +kernel)
set_option maxRecDepth 20000 in
theorem gX8_init_X7_init_n9 : GoodIn wsX8_init (wsX7_init) := ggX8_init_X7_init
set_option maxRecDepth 20000 in
theorem ggX8_init_X2_init : GoodIn wsX8_init wsX2_init := goodIn_r _ [40, 41, 2, 3, 42, 43, 44, 45, 46, 47, 48, 49, 117, 118, 119, 120, 121, 122, 123] (by decide +kernel) (by decide +kernel)
set_option maxRecDepth 20000 in
theorem gX8_init_X2_init_n18 : GoodIn wsX8_init (wsX2_init) := ggX8_init_X2_init
set_option maxRecDepth 20000 in
theorem ggX8_init_X3_init : GoodIn wsX8_init wsX3_init := goodIn_r _ [52, 53, 2, 3, 42, 54, 55, 56, 57, 58, 59, 124, 125, 126, 127, 128, 129] (by decide +kernel) (by decide +kernel)
set_option maxRecDepth 20000 in
theorem gX8_init_X3_init : GoodIn wsX8_init (wsX3_init) := ggX8_init_X3_init
set_option maxRecDepth 20000 in
theorem ggX8_init_X0_init : GoodIn wsX8_init wsX0_init := goodIn_r _ [62, 63, 2, 3, 64, 65, 66, 67, 13, 14, 68, 51, 52, 53, 42, 54, 55, 56, 57, 58, 59, 130, 131, 132, 124, 125, 126, 127, 128, 129] (by decide +kernel) (by decide +kernel)
set_option maxRecDepth 20000 in
theorem gX8_init_X0_init : GoodIn wsX8_init (wsX0_init) := ggX8_init_X0_init
set_option maxRecDepth 20000 in
theorem ggX8_init_X6_init : GoodIn wsX8_init wsX6_init := goodIn_r _ [71, 72, 2, 3, 73, 74, 75, 76, 13, 14, 77, 51, 52, 53, 42, 54, 55, 56, 57, 58, 59, 133, 134, 124, 125, 126, 127, 128, 129] (by decide +kernel) (by decide +kernel)
set_option maxRecDepth 20000 in
theorem gX8_init_X6_init : GoodIn wsX8_init (wsX6_init) := ggX8_init_X6_init
set_option maxRecDepth 20000 in
theorem ggX8_init_X1_init : GoodIn wsX8_init wsX1_init := goodIn_r _ [79, 80, 2, 3, 81, 82, 83, 135, 136] (by decide +kernel) (by decide +kernel)
set_option maxRecDepth 20000 in
theorem gX8_init_X1_init_n49 : GoodIn wsX8_init (wsX1_init) := ggX8_init_X1_init
set_option maxRecDepth 20000 in
theorem ggX8_init_X5_init : GoodIn wsX8_init wsX5_init := goodIn_r _ [86, 87, 2, 3, 42, 88, 89, 90, 91, 92, 93, 94, 95, 96, 97, 98, 99, 100, 101, 102, 103, 104, 105, 13, 14, 106, 51, 52, 53, 54, 55, 56, 57, 58, 59, 137, 138, 139, 140, 141, 142, 143, 144, 145, 146, 124, 125, 126, 127, 128, 129] (by decide +kernel) (by decide +kernel)
set_option maxRecDepth 20000 in
theorem gX8_init_X5_init : GoodIn wsX8_init (wsX5_init) := ggX8_init_X5_init
theorem dX8_init_0 : decode cX8_init 0 = .ok (.aload_n 0, 1) := by decide +kernel
theorem dX8_init_1 : decode cX8_init 1 = .ok (.invokespecial 1, 3) := by decide +kernel
theorem dX8_init_4 : decode cX8_init 4 = .ok (.aload_n 0, 1) := by decide +kernel
theorem dX8_init_5 : decode cX8_init 5 = .ok (.new 7, 3) := by decide +kernel
theorem dX8_init_8 : decode cX8_init 8 = .ok (.dup, 1) := by decide +kernel
theorem dX8_init_9 : decode cX8_init 9 = .ok (.invokespecial 9, 3) := by decide +kernel
theorem dX8_init_12 : decode cX8_init 12 = .ok (.putfield 10, 3) := by decide +kernel
theorem dX8_init_15 : decode cX8_init 15 = .ok (.aload_n 0, 1) := by decide +kernel
theorem dX8_init_16 : decode cX8_init 16 = .ok (.new 16, 3) := by decide +kernel
theorem dX8_init_19 : decode cX8_init 19 = .ok (.dup, 1) := by decide +kernel
theorem dX8_init_20 : decode cX8_init 20 = .ok (.invokespecial 18, 3) := by decide +kernel
theorem dX8_init_23 : decode cX8_init 23 = .ok (.putfield 19, 3) := by decide +kernel
theorem dX8_init_26 : decode cX8_init 26 = .ok (.aload_n 0, 1) := by decide +kernel
theorem dX8_init_27 : decode cX8_init 27 = .ok (.new 23, 3) := by decide +kernel
theorem dX8_init_30 : decode cX8_init 30 = .ok (.dup, 1) := by decide +kernel
theorem dX8_init_31 : decode cX8_init 31 = .ok (.invokespecial 25, 3) := by decide +kernel
theorem dX8_init_34 : decode cX8_init 34 = .ok (.putfield 26, 3) := by decide +kernel
theorem dX8_init_37 : decode cX8_init 37 = .ok (.aload_n 0, 1) := by decide +kernel
theorem dX8_init_38 : decode cX8_init 38 = .ok (.new 23, 3) := by decide +kernel
theorem dX8_init_41 : decode cX8_init 41 = .ok (.dup, 1) := by decide +kernel
theorem dX8_init_42 : decode cX8_init 42 = .ok (.invokespecial 25, 3) := by decide +kernel
theorem dX8_init_45 : decode cX8_init 45 = .ok (.putfield 30, 3) := by decide +kernel
theorem dX8_init_48 : decode cX8_init 48 = .ok (.aload_n 0, 1) := by decide +kernel
theorem dX8_init_49 : decode cX8_init 49 = .ok (.new 33, 3) := by decide +kernel
theorem dX8_init_52 : decode cX8_init 52 = .ok (.dup, 1) := by decide +kernel
theorem dX8_init_53 : decode cX8_init 53 = .ok (.invokespecial 35, 3) := by decide +kernel
theorem dX8_init_56 : decode cX8_init 56 = .ok (.putfield 36, 3) := by decide +kernel
theorem dX8_init_59 : decode cX8_init 59 = .ok (.aload_n 0, 1) := by decide +kernel
theorem dX8_init_60 : decode cX8_init 60 = .ok (.new 40, 3) := by decide +kernel
theorem dX8_init_63 : decode cX8_init 63 = .ok (.dup, 1) := by decide +kernel
theorem dX8_init_64 : decode cX8_init 64 = .ok (.invokespecial 42, 3) := by decide +kernel
theorem dX8_init_67 : decode cX8_init 67 = .ok (.putfield 43, 3) := by decide +kernel
theorem dX8_init_70 : decode cX8_init 70 = .ok (.aload_n 0, 1) := by decide +kernel
theorem dX8_init_71 : decode cX8_init 71 = .ok (.new 47, 3) := by decide +kernel
theorem dX8_init_74 : decode cX8_init 74 = .ok (.dup, 1) := by decide +kernel
theorem dX8_init_75 : decode cX8_init 75 = .ok (.invokespecial 49, 3) := by decide +kernel
theorem dX8_init_78 : decode cX8_init 78 = .ok (.putfield 50, 3) := by decide +kernel
theorem dX8_init_81 : decode cX8_init 81 = .ok (.aload_n 0, 1) := by decide +kernel
theorem dX8_init_82 : decode cX8_init 82 = .ok (.new 54, 3) := by decide +kernel
theorem dX8_init_85 : decode cX8_init 85 = .ok (.dup, 1) := by decide +kernel
theorem dX8_init_86 : decode cX8_init 86 = .ok (.aload_n 0, 1) := by decide +kernel
theorem dX8_init_87 : decode cX8_init 87 = .ok (.getfield 19, 3) := by decide +kernel
theorem dX8_init_90 : decode cX8_init 90 = .ok (.aload_n 0, 1) := by decide +kernel
theorem dX8_init_91 : decode cX8_init 91 = .ok (.getfield 30, 3) := by decide +kernel
theorem dX8_init_94 : decode cX8_init 94 = .ok (.invokespecial 56, 3) := by decide +kernel
theorem dX8_init_97 : decode cX8_init 97 = .ok (.putfield 59, 3) := by decide +kernel
theorem dX8_init_100 : decode cX8_init 100 = .ok (.return_, 1) := by decide +kernel
set_option maxRecDepth 20000 in
theorem ggX8_write_X7_hasRoomFor : GoodIn wsX8_write wsX7_hasRoomFor := goodIn_r _ [6, 7, 8, 25, 26] (by decide +kernel) (by decide +kernel)
set_option maxRecDepth 20000 in
theorem gX8_write_X7_hasRoomFor : GoodIn wsX8_write (wsV RX8 63 RX7 yX7_hasRoomFor wsX7_hasRoomFor) := goodIn_app (goodIn_of _ (by decide +kernel)) ggX8_write_X7_hasRoomFor
set_option maxRecDepth 20000 in
theorem ggX8_write_X7_append : GoodIn wsX8_write wsX7_append := goodIn_r _ [12, 7, 8, 25, 26] (by decide +kernel) (by decide +kernel)
set_option maxRecDepth 20000 in
theorem gX8_write_X7_append : GoodIn wsX8_write (wsV RX8 67 RX7 yX7_append wsX7_append) := goodIn_app (goodIn_of _ (by decide +kernel)) ggX8_write_X7_append
set_option maxRecDepth 20000 in
theorem ggX8_write_X7_size : GoodIn wsX8_write wsX7_size := goodIn_r _ [16, 7, 25, 26] (by decide +kernel) (by decide +kernel)
set_option maxRecDepth 20000 in
theorem gX8_write_X7_size : GoodIn wsX8_write (wsV RX8 71 RX7 yX7_size wsX7_size) := goodIn_app (goodIn_of _ (by decide +kernel)) ggX8_write_X7_size
theorem dX8_write_0 : decode cX8_write 0 = .ok (.iload_n 1, 1) := by decide +kernel
theorem dX8_write_1 : decode cX8_write 1 = .ok (.iconst 1, 1) := by decide +kernel
theorem dX8_write_2 : decode cX8_write 2 = .ok (.if_icmp .lt 9, 3) := by decide +kernel
theorem dX8_write_5 : decode cX8_write 5 = .ok (.iload_n 1, 1) := by decide +kernel
theorem dX8_write_6 : decode cX8_write 6 = .ok (.bipush 8, 2) := by decide +kernel
theorem dX8_write_8 : decode cX8_write 8 = .ok (.if_icmp .le 6, 3) := by decide +kernel
theorem dX8_write_11 : decode cX8_write 11 = .ok (.bipush (-2), 2) := by decide +kernel
theorem dX8_write_13 : decode cX8_write 13 = .ok (.ireturn, 1) := by decide +kernel
theorem dX8_write_14 : decode cX8_write 14 = .ok (.aload_n 0, 1) := by decide +kernel
theorem dX8_write_15 : decode cX8_write 15 = .ok (.getfield 10, 3) := by decide +kernel
theorem dX8_write_18 : decode cX8_write 18 = .ok (.iload_n 1, 1) := by decide +kernel
theorem dX8_write_19 : decode cX8_write 19 = .ok (.invokevirtual 63, 3) := by decide +kernel
theorem dX8_write_22 : decode cX8_write 22 = .ok (.ifCond .ne 6, 3) := by decide +kernel
theorem dX8_write_25 : decode cX8_write 25 = .ok (.bipush (-4), 2) := by decide +kernel
theorem dX8_write_27 : decode cX8_write 27 = .ok (.ireturn, 1) := by decide +kernel
theorem dX8_write_28 : decode cX8_write 28 = .ok (.aload_n 0, 1) := by decide +kernel
theorem dX8_write_29 : decode cX8_write 29 = .ok (.getfield 10, 3) := by decide +kernel
theorem dX8_write_32 : decode cX8_write 32 = .ok (.iload_n 1, 1) := by decide +kernel
theorem dX8_write_33 : decode cX8_write 33 = .ok (.lload_n 2, 1) := by decide +kernel
theorem dX8_write_34 : decode cX8_write 34 = .ok (.invokevirtual 67, 3) := by decide +kernel
theorem dX8_write_37 : decode cX8_write 37 = .ok (.aload_n 0, 1) := by decide +kernel
theorem dX8_write_38 : decode cX8_write 38 = .ok (.getfield 10, 3) := by decide +kernel
theorem dX8_write_41 : decode cX8_write 41 = .ok (.invokevirtual 71, 3) := by decide +kernel
theorem dX8_write_44 : decode cX8_write 44 = .ok (.ireturn, 1) := by decide +kernel
set_option maxRecDepth 20000 in
theorem ggX8_wipe_X7_size : GoodIn wsX8_wipe wsX7_size := goodIn_r _ [6, 7, 20, 21] (by decide +kernel) (by decide +kernel)
set_option maxRecDepth 20000 in
theorem gX8_wipe_X7_size : GoodIn wsX8_wipe (wsV RX8 71 RX7 yX7_size wsX7_size) := goodIn_app (goodIn_of _ (by decide +kernel)) ggX8_wipe_X7_size
set_option maxRecDepth 20000 in
theorem ggX8_wipe_X7_clear : GoodIn wsX8_wipe wsX7_clear := goodIn_r _ [11, 7, 20, 21] (by decide +kernel) (by decide +kernel)
set_option maxRecDepth 20000 in
theorem gX8_wipe_X7_clear : GoodIn wsX8_wipe (wsV RX8 75 RX7 yX7_clear wsX7_clear) := goodIn_app (goodIn_of _ (by decide +kernel)) ggX8_wipe_X7_clear
theorem dX8_wipe_0 : decode cX8_wipe 0 = .ok (.aload_n 0, 1) := by decide +kernel
theorem dX8_wipe_1 : decode cX8_wipe 1 = .ok (.getfield 10, 3) := by decide +kernel
theorem dX8_wipe_4 : decode cX8_wipe 4 = .ok (.invokevirtual 71, 3) := by decide +kernel
theorem dX8_wipe_7 : decode cX8_wipe 7 = .ok (.istore_n 1, 1) := by decide +kernel
theorem dX8_wipe_8 : decode cX8_wipe 8 = .ok (.aload_n 0, 1) := by decide +kernel
theorem dX8_wipe_9 : decode cX8_wipe 9 = .ok (.getfield 10, 3) := by decide +kernel
theorem dX8_wipe_12 : decode cX8_wipe 12 = .ok (.invokevirtual 75, 3) := by decide +kernel
theorem dX8_wipe_15 : decode cX8_wipe 15 = .ok (.iload_n 1, 1) := by decide +kernel
theorem dX8_wipe_16 : decode cX8_wipe 16 = .ok (.ireturn, 1) := by decide +kernel
set_option maxRecDepth 20000 in
theorem ggX8_fault_X7_firstFault : GoodIn wsX8_fault wsX7_firstFault := goodIn_r _ [6, 7, 8, 9, 10, 5, 11, 12, 13, 14, 15, 16, 17, 18, 19, 20, 21, 22, 23, 24, 25, 26, 27, 28, 29, 30, 31, 32, 33, 34, 35, 36, 37, 38, 39, 40, 49, 50] (by decide +kernel) (by decide +kernel)
set_option maxRecDepth 20000 in
theorem gX8_fault_X7_firstFault : GoodIn wsX8_fault (wsV RX8 78 RX7 yX7_firstFault wsX7_firstFault) := goodIn_app (goodIn_of _ (by decide +kernel)) ggX8_fault_X7_firstFault
theorem dX8_fault_0 : decode cX8_fault 0 = .ok (.aload_n 0, 1) := by decide +kernel
theorem dX8_fault_1 : decode cX8_fault 1 = .ok (.getfield 10, 3) := by decide +kernel
theorem dX8_fault_4 : decode cX8_fault 4 = .ok (.invokevirtual 78, 3) := by decide +kernel
theorem dX8_fault_7 : decode cX8_fault 7 = .ok (.ireturn, 1) := by decide +kernel
set_option maxRecDepth 20000 in
theorem ggX8_ship_X7_firstFault : GoodIn wsX8_ship wsX7_firstFault := goodIn_r _ [10, 11, 12, 13, 14, 9, 15, 16, 17, 18, 19, 20, 21, 22, 23, 24, 25, 26, 27, 28, 29, 30, 31, 32, 33, 34, 35, 36, 37, 38, 39, 40, 41, 42, 43, 44, 111, 112] (by decide +kernel) (by decide +kernel)
set_option maxRecDepth 20000 in
theorem gX8_ship_X7_firstFault : GoodIn wsX8_ship (wsV RX8 78 RX7 yX7_firstFault wsX7_firstFault) := goodIn_app (goodIn_of _ (by decide +kernel)) ggX8_ship_X7_firstFault
set_option maxRecDepth 20000 in
theorem ggX8_ship_X2_build : GoodIn wsX8_ship wsX2_build := goodIn_r _ [49, 50, 51, 52, 53, 54, 55, 56, 57, 26, 27, 9, 28, 16, 17, 18, 19, 11, 20, 58, 59, 60, 61, 62, 63, 34, 35, 36, 64, 42, 43, 44, 33, 113, 114, 115, 116, 117, 118, 119, 111, 112] (by decide +kernel) (by decide +kernel)
set_option maxRecDepth 20000 in
theorem gX8_ship_X2_build : GoodIn wsX8_ship (wsV RX8 81 RX2 yX2_build wsX2_build) := goodIn_app (goodIn_of _ (by decide +kernel)) ggX8_ship_X2_build
set_option maxRecDepth 20000 in
theorem ggX8_ship_X3_fill : GoodIn wsX8_ship wsX3_fill := goodIn_r _ [69, 70, 71, 72, 73, 74, 75, 76, 77, 78, 48, 79, 52, 80, 34, 35, 9, 36, 16, 17, 18, 19, 11, 20, 81, 82, 83, 84, 53, 85, 26, 27, 28, 86, 42, 43, 44, 33, 120, 121, 122, 123, 124, 125, 113, 114, 115, 116, 117, 118, 119, 111, 112] (by decide +kernel) (by decide +kernel)
set_option maxRecDepth 20000 in
theorem gX8_ship_X3_fill : GoodIn wsX8_ship (wsV RX8 85 RX3 yX3_fill wsX3_fill) := goodIn_app (goodIn_of _ (by decide +kernel)) ggX8_ship_X3_fill
set_option maxRecDepth 20000 in
theorem ggX8_ship_X0_forgetAll : GoodIn wsX8_ship wsX0_forgetAll := goodIn_r _ [91, 92, 126, 127, 128] (by decide +kernel) (by decide +kernel)
set_option maxRecDepth 20000 in
theorem gX8_ship_X0_forgetAll : GoodIn wsX8_ship (wsV RX8 89 RX0 yX0_forgetAll wsX0_forgetAll) := goodIn_app (goodIn_of _ (by decide +kernel)) ggX8_ship_X0_forgetAll
set_option maxRecDepth 20000 in
theorem ggX8_ship_X6_forgetAll : GoodIn wsX8_ship wsX6_forgetAll := goodIn_r _ [97, 98, 129, 130] (by decide +kernel) (by decide +kernel)
set_option maxRecDepth 20000 in
theorem gX8_ship_X6_forgetAll : GoodIn wsX8_ship (wsV RX8 92 RX6 yX6_forgetAll wsX6_forgetAll) := goodIn_app (goodIn_of _ (by decide +kernel)) ggX8_ship_X6_forgetAll
set_option maxRecDepth 20000 in
theorem ggX8_ship_X2_places : GoodIn wsX8_ship wsX2_places := goodIn_r _ [102, 52, 113, 114, 115, 116, 117, 118, 119] (by decide +kernel) (by decide +kernel)
set_option maxRecDepth 20000 in
theorem gX8_ship_X2_places : GoodIn wsX8_ship (wsV RX8 93 RX2 yX2_places wsX2_places) := goodIn_app (goodIn_of _ (by decide +kernel)) ggX8_ship_X2_places
theorem dX8_ship_0 : decode cX8_ship 0 = .ok (.aload_n 0, 1) := by decide +kernel
theorem dX8_ship_1 : decode cX8_ship 1 = .ok (.getfield 10, 3) := by decide +kernel
theorem dX8_ship_4 : decode cX8_ship 4 = .ok (.invokevirtual 78, 3) := by decide +kernel
theorem dX8_ship_7 : decode cX8_ship 7 = .ok (.bipush (-9), 2) := by decide +kernel
theorem dX8_ship_9 : decode cX8_ship 9 = .ok (.if_icmp .eq 6, 3) := by decide +kernel
theorem dX8_ship_12 : decode cX8_ship 12 = .ok (.bipush (-3), 2) := by decide +kernel
theorem dX8_ship_14 : decode cX8_ship 14 = .ok (.ireturn, 1) := by decide +kernel
theorem dX8_ship_15 : decode cX8_ship 15 = .ok (.aload_n 0, 1) := by decide +kernel
theorem dX8_ship_16 : decode cX8_ship 16 = .ok (.getfield 19, 3) := by decide +kernel
theorem dX8_ship_19 : decode cX8_ship 19 = .ok (.aload_n 0, 1) := by decide +kernel
theorem dX8_ship_20 : decode cX8_ship 20 = .ok (.getfield 10, 3) := by decide +kernel
theorem dX8_ship_23 : decode cX8_ship 23 = .ok (.invokevirtual 81, 3) := by decide +kernel
theorem dX8_ship_26 : decode cX8_ship 26 = .ok (.aload_n 0, 1) := by decide +kernel
theorem dX8_ship_27 : decode cX8_ship 27 = .ok (.getfield 26, 3) := by decide +kernel
theorem dX8_ship_30 : decode cX8_ship 30 = .ok (.aload_n 0, 1) := by decide +kernel
theorem dX8_ship_31 : decode cX8_ship 31 = .ok (.getfield 19, 3) := by decide +kernel
theorem dX8_ship_34 : decode cX8_ship 34 = .ok (.aload_n 0, 1) := by decide +kernel
theorem dX8_ship_35 : decode cX8_ship 35 = .ok (.getfield 10, 3) := by decide +kernel
theorem dX8_ship_38 : decode cX8_ship 38 = .ok (.invokevirtual 85, 3) := by decide +kernel
theorem dX8_ship_41 : decode cX8_ship 41 = .ok (.aload_n 0, 1) := by decide +kernel
theorem dX8_ship_42 : decode cX8_ship 42 = .ok (.getfield 36, 3) := by decide +kernel
theorem dX8_ship_45 : decode cX8_ship 45 = .ok (.invokevirtual 89, 3) := by decide +kernel
theorem dX8_ship_48 : decode cX8_ship 48 = .ok (.aload_n 0, 1) := by decide +kernel
theorem dX8_ship_49 : decode cX8_ship 49 = .ok (.getfield 43, 3) := by decide +kernel
theorem dX8_ship_52 : decode cX8_ship 52 = .ok (.invokevirtual 92, 3) := by decide +kernel
theorem dX8_ship_55 : decode cX8_ship 55 = .ok (.aload_n 0, 1) := by decide +kernel
theorem dX8_ship_56 : decode cX8_ship 56 = .ok (.getfield 19, 3) := by decide +kernel
theorem dX8_ship_59 : decode cX8_ship 59 = .ok (.invokevirtual 93, 3) := by decide +kernel
theorem dX8_ship_62 : decode cX8_ship 62 = .ok (.ireturn, 1) := by decide +kernel
set_option maxRecDepth 20000 in
theorem ggX8_place_X2_isPlace : GoodIn wsX8_place wsX2_isPlace := goodIn_r _ [7, 8, 38, 39, 40, 41, 42, 43, 44] (by decide +kernel) (by decide +kernel)
set_option maxRecDepth 20000 in
theorem gX8_place_X2_isPlace : GoodIn wsX8_place (wsV RX8 96 RX2 yX2_isPlace wsX2_isPlace) := goodIn_app (goodIn_of _ (by decide +kernel)) ggX8_place_X2_isPlace
set_option maxRecDepth 20000 in
theorem ggX8_place_X2_lengthOf : GoodIn wsX8_place wsX2_lengthOf := goodIn_r _ [12, 8, 13, 38, 39, 40, 41, 42, 43, 44] (by decide +kernel) (by decide +kernel)
set_option maxRecDepth 20000 in
theorem gX8_place_X2_lengthOf : GoodIn wsX8_place (wsV RX8 99 RX2 yX2_lengthOf wsX2_lengthOf) := goodIn_app (goodIn_of _ (by decide +kernel)) ggX8_place_X2_lengthOf
set_option maxRecDepth 20000 in
theorem ggX8_place_X2_letsIn : GoodIn wsX8_place wsX2_letsIn := goodIn_r _ [17, 8, 18, 38, 39, 40, 41, 42, 43, 44] (by decide +kernel) (by decide +kernel)
set_option maxRecDepth 20000 in
theorem gX8_place_X2_letsIn : GoodIn wsX8_place (wsV RX8 103 RX2 yX2_letsIn wsX2_letsIn) := goodIn_app (goodIn_of _ (by decide +kernel)) ggX8_place_X2_letsIn
set_option maxRecDepth 20000 in
theorem ggX8_place_X2_restsOn : GoodIn wsX8_place wsX2_restsOn := goodIn_r _ [22, 8, 23, 38, 39, 40, 41, 42, 43, 44] (by decide +kernel) (by decide +kernel)
set_option maxRecDepth 20000 in
theorem gX8_place_X2_restsOn : GoodIn wsX8_place (wsV RX8 106 RX2 yX2_restsOn wsX2_restsOn) := goodIn_app (goodIn_of _ (by decide +kernel)) ggX8_place_X2_restsOn
set_option maxRecDepth 20000 in
theorem ggX8_place_X3_timberIn : GoodIn wsX8_place wsX3_timberIn := goodIn_r _ [28, 29, 45, 46, 47, 48, 49, 50] (by decide +kernel) (by decide +kernel)
set_option maxRecDepth 20000 in
theorem gX8_place_X3_timberIn : GoodIn wsX8_place (wsV RX8 109 RX3 yX3_timberIn wsX3_timberIn) := goodIn_app (goodIn_of _ (by decide +kernel)) ggX8_place_X3_timberIn
theorem dX8_place_0 : decode cX8_place 0 = .ok (.aload_n 0, 1) := by decide +kernel
theorem dX8_place_1 : decode cX8_place 1 = .ok (.getfield 19, 3) := by decide +kernel
theorem dX8_place_4 : decode cX8_place 4 = .ok (.iload_n 1, 1) := by decide +kernel
theorem dX8_place_5 : decode cX8_place 5 = .ok (.invokevirtual 96, 3) := by decide +kernel
theorem dX8_place_8 : decode cX8_place 8 = .ok (.ifCond .ne 5, 3) := by decide +kernel
theorem dX8_place_11 : decode cX8_place 11 = .ok (.iconst (-1), 1) := by decide +kernel
theorem dX8_place_12 : decode cX8_place 12 = .ok (.ireturn, 1) := by decide +kernel
theorem dX8_place_13 : decode cX8_place 13 = .ok (.iload_n 2, 1) := by decide +kernel
theorem dX8_place_14 : decode cX8_place 14 = .ok (.tableswitch 66 0 3 #[30, 39, 48, 57], 30) := by decide +kernel
theorem dX8_place_44 : decode cX8_place 44 = .ok (.aload_n 0, 1) := by decide +kernel
theorem dX8_place_45 : decode cX8_place 45 = .ok (.getfield 19, 3) := by decide +kernel
theorem dX8_place_48 : decode cX8_place 48 = .ok (.iload_n 1, 1) := by decide +kernel
theorem dX8_place_49 : decode cX8_place 49 = .ok (.invokevirtual 99, 3) := by decide +kernel
theorem dX8_place_52 : decode cX8_place 52 = .ok (.ireturn, 1) := by decide +kernel
theorem dX8_place_53 : decode cX8_place 53 = .ok (.aload_n 0, 1) := by decide +kernel
theorem dX8_place_54 : decode cX8_place 54 = .ok (.getfield 19, 3) := by decide +kernel
theorem dX8_place_57 : decode cX8_place 57 = .ok (.iload_n 1, 1) := by decide +kernel
theorem dX8_place_58 : decode cX8_place 58 = .ok (.invokevirtual 103, 3) := by decide +kernel
theorem dX8_place_61 : decode cX8_place 61 = .ok (.ireturn, 1) := by decide +kernel
theorem dX8_place_62 : decode cX8_place 62 = .ok (.aload_n 0, 1) := by decide +kernel
theorem dX8_place_63 : decode cX8_place 63 = .ok (.getfield 19, 3) := by decide +kernel
theorem dX8_place_66 : decode cX8_place 66 = .ok (.iload_n 1, 1) := by decide +kernel
theorem dX8_place_67 : decode cX8_place 67 = .ok (.invokevirtual 106, 3) := by decide +kernel
theorem dX8_place_70 : decode cX8_place 70 = .ok (.ireturn, 1) := by decide +kernel
theorem dX8_place_71 : decode cX8_place 71 = .ok (.aload_n 0, 1) := by decide +kernel
theorem dX8_place_72 : decode cX8_place 72 = .ok (.getfield 26, 3) := by decide +kernel
theorem dX8_place_75 : decode cX8_place 75 = .ok (.iload_n 1, 1) := by decide +kernel
theorem dX8_place_76 : decode cX8_place 76 = .ok (.invokevirtual 109, 3) := by decide +kernel
theorem dX8_place_79 : decode cX8_place 79 = .ok (.ireturn, 1) := by decide +kernel
theorem dX8_place_80 : decode cX8_place 80 = .ok (.bipush (-2), 2) := by decide +kernel
theorem dX8_place_82 : decode cX8_place 82 = .ok (.ireturn, 1) := by decide +kernel
set_option maxRecDepth 20000 in
theorem ggX8_timber_X2_isPlace : GoodIn wsX8_timber wsX2_isPlace := goodIn_r _ [7, 8, 38, 39, 40, 41, 42, 43, 44] (by decide +kernel) (by decide +kernel)
set_option maxRecDepth 20000 in
theorem gX8_timber_X2_isPlace : GoodIn wsX8_timber (wsV RX8 96 RX2 yX2_isPlace wsX2_isPlace) := goodIn_app (goodIn_of _ (by decide +kernel)) ggX8_timber_X2_isPlace
set_option maxRecDepth 20000 in
theorem ggX8_timber_X3_whereIs : GoodIn wsX8_timber wsX3_whereIs := goodIn_r _ [13, 14, 45, 46, 47, 48, 49, 50] (by decide +kernel) (by decide +kernel)
set_option maxRecDepth 20000 in
theorem gX8_timber_X3_whereIs : GoodIn wsX8_timber (wsV RX8 112 RX3 yX3_whereIs wsX3_whereIs) := goodIn_app (goodIn_of _ (by decide +kernel)) ggX8_timber_X3_whereIs
set_option maxRecDepth 20000 in
theorem ggX8_timber_X3_lengthOf : GoodIn wsX8_timber wsX3_lengthOf := goodIn_r _ [18, 19, 45, 46, 47, 48, 49, 50] (by decide +kernel) (by decide +kernel)
set_option maxRecDepth 20000 in
theorem gX8_timber_X3_lengthOf : GoodIn wsX8_timber (wsV RX8 115 RX3 yX3_lengthOf wsX3_lengthOf) := goodIn_app (goodIn_of _ (by decide +kernel)) ggX8_timber_X3_lengthOf
set_option maxRecDepth 20000 in
theorem ggX8_timber_X2_shipOf : GoodIn wsX8_timber wsX2_shipOf := goodIn_r _ [23, 8, 24, 38, 39, 40, 41, 42, 43, 44] (by decide +kernel) (by decide +kernel)
set_option maxRecDepth 20000 in
theorem gX8_timber_X2_shipOf : GoodIn wsX8_timber (wsV RX8 116 RX2 yX2_shipOf wsX2_shipOf) := goodIn_app (goodIn_of _ (by decide +kernel)) ggX8_timber_X2_shipOf
set_option maxRecDepth 20000 in
theorem ggX8_timber_X3_wormsIn : GoodIn wsX8_timber wsX3_wormsIn := goodIn_r _ [28, 29, 45, 46, 47, 48, 49, 50] (by decide +kernel) (by decide +kernel)
set_option maxRecDepth 20000 in
theorem gX8_timber_X3_wormsIn : GoodIn wsX8_timber (wsV RX8 119 RX3 yX3_wormsIn wsX3_wormsIn) := goodIn_app (goodIn_of _ (by decide +kernel)) ggX8_timber_X3_wormsIn
theorem dX8_timber_0 : decode cX8_timber 0 = .ok (.aload_n 0, 1) := by decide +kernel
theorem dX8_timber_1 : decode cX8_timber 1 = .ok (.getfield 19, 3) := by decide +kernel
theorem dX8_timber_4 : decode cX8_timber 4 = .ok (.iload_n 1, 1) := by decide +kernel
theorem dX8_timber_5 : decode cX8_timber 5 = .ok (.invokevirtual 96, 3) := by decide +kernel
theorem dX8_timber_8 : decode cX8_timber 8 = .ok (.ifCond .ne 5, 3) := by decide +kernel
theorem dX8_timber_11 : decode cX8_timber 11 = .ok (.iconst (-1), 1) := by decide +kernel
theorem dX8_timber_12 : decode cX8_timber 12 = .ok (.ireturn, 1) := by decide +kernel
theorem dX8_timber_13 : decode cX8_timber 13 = .ok (.iload_n 2, 1) := by decide +kernel
theorem dX8_timber_14 : decode cX8_timber 14 = .ok (.tableswitch 66 0 3 #[30, 39, 48, 57], 30) := by decide +kernel
theorem dX8_timber_44 : decode cX8_timber 44 = .ok (.aload_n 0, 1) := by decide +kernel
theorem dX8_timber_45 : decode cX8_timber 45 = .ok (.getfield 26, 3) := by decide +kernel
theorem dX8_timber_48 : decode cX8_timber 48 = .ok (.iload_n 1, 1) := by decide +kernel
theorem dX8_timber_49 : decode cX8_timber 49 = .ok (.invokevirtual 112, 3) := by decide +kernel
theorem dX8_timber_52 : decode cX8_timber 52 = .ok (.ireturn, 1) := by decide +kernel
theorem dX8_timber_53 : decode cX8_timber 53 = .ok (.aload_n 0, 1) := by decide +kernel
theorem dX8_timber_54 : decode cX8_timber 54 = .ok (.getfield 26, 3) := by decide +kernel
theorem dX8_timber_57 : decode cX8_timber 57 = .ok (.iload_n 1, 1) := by decide +kernel
theorem dX8_timber_58 : decode cX8_timber 58 = .ok (.invokevirtual 115, 3) := by decide +kernel
theorem dX8_timber_61 : decode cX8_timber 61 = .ok (.ireturn, 1) := by decide +kernel
theorem dX8_timber_62 : decode cX8_timber 62 = .ok (.aload_n 0, 1) := by decide +kernel
theorem dX8_timber_63 : decode cX8_timber 63 = .ok (.getfield 19, 3) := by decide +kernel
theorem dX8_timber_66 : decode cX8_timber 66 = .ok (.iload_n 1, 1) := by decide +kernel
theorem dX8_timber_67 : decode cX8_timber 67 = .ok (.invokevirtual 116, 3) := by decide +kernel
theorem dX8_timber_70 : decode cX8_timber 70 = .ok (.ireturn, 1) := by decide +kernel
theorem dX8_timber_71 : decode cX8_timber 71 = .ok (.aload_n 0, 1) := by decide +kernel
theorem dX8_timber_72 : decode cX8_timber 72 = .ok (.getfield 26, 3) := by decide +kernel
theorem dX8_timber_75 : decode cX8_timber 75 = .ok (.iload_n 1, 1) := by decide +kernel
theorem dX8_timber_76 : decode cX8_timber 76 = .ok (.invokevirtual 119, 3) := by decide +kernel
theorem dX8_timber_79 : decode cX8_timber 79 = .ok (.ireturn, 1) := by decide +kernel
theorem dX8_timber_80 : decode cX8_timber 80 = .ok (.bipush (-2), 2) := by decide +kernel
theorem dX8_timber_82 : decode cX8_timber 82 = .ok (.ireturn, 1) := by decide +kernel
set_option maxRecDepth 20000 in
theorem ggX8_take_X2_isPlace : GoodIn wsX8_take wsX2_isPlace := goodIn_r _ [8, 9, 74, 75, 76, 77, 78, 79, 80] (by decide +kernel) (by decide +kernel)
set_option maxRecDepth 20000 in
theorem gX8_take_X2_isPlace : GoodIn wsX8_take (wsV RX8 96 RX2 yX2_isPlace wsX2_isPlace) := goodIn_app (goodIn_of _ (by decide +kernel)) ggX8_take_X2_isPlace
set_option maxRecDepth 20000 in
theorem ggX8_take_X3_isSunk : GoodIn wsX8_take wsX3_isSunk := goodIn_r _ [14, 15, 81, 82, 83, 84, 85, 86] (by decide +kernel) (by decide +kernel)
set_option maxRecDepth 20000 in
theorem gX8_take_X3_isSunk : GoodIn wsX8_take (wsV RX8 122 RX3 yX3_isSunk wsX3_isSunk) := goodIn_app (goodIn_of _ (by decide +kernel)) ggX8_take_X3_isSunk
set_option maxRecDepth 20000 in
theorem ggX8_take_X2_mayBeTakenFrom : GoodIn wsX8_take wsX2_mayBeTakenFrom := goodIn_r _ [19, 9, 20, 21, 22, 13, 23, 24, 25, 26, 27, 7, 28, 29, 74, 75, 76, 77, 78, 79, 80, 81, 82, 83, 84, 85, 86] (by decide +kernel) (by decide +kernel)
set_option maxRecDepth 20000 in
theorem gX8_take_X2_mayBeTakenFrom : GoodIn wsX8_take (wsV RX8 126 RX2 yX2_mayBeTakenFrom wsX2_mayBeTakenFrom) := goodIn_app (goodIn_of _ (by decide +kernel)) ggX8_take_X2_mayBeTakenFrom
set_option maxRecDepth 20000 in
theorem ggX8_take_X0_remember : GoodIn wsX8_take wsX0_remember := goodIn_r _ [34, 35, 36, 37, 38, 39, 40, 41, 42, 43, 44, 33, 45, 46, 47, 48, 13, 49, 50, 51, 52, 53, 54, 55, 56, 24, 57, 15, 87, 88, 89, 81, 82, 83, 84, 85, 86] (by decide +kernel) (by decide +kernel)
set_option maxRecDepth 20000 in
theorem gX8_take_X0_remember : GoodIn wsX8_take (wsV RX8 130 RX0 yX0_remember wsX0_remember) := goodIn_app (goodIn_of _ (by decide +kernel)) ggX8_take_X0_remember
set_option maxRecDepth 20000 in
theorem ggX8_take_X3_timberIn : GoodIn wsX8_take wsX3_timberIn := goodIn_r _ [61, 24, 81, 82, 83, 84, 85, 86] (by decide +kernel) (by decide +kernel)
set_option maxRecDepth 20000 in
theorem gX8_take_X3_timberIn : GoodIn wsX8_take (wsV RX8 109 RX3 yX3_timberIn wsX3_timberIn) := goodIn_app (goodIn_of _ (by decide +kernel)) ggX8_take_X3_timberIn
set_option maxRecDepth 20000 in
theorem ggX8_take_X3_bringTo : GoodIn wsX8_take wsX3_bringTo := goodIn_r _ [65, 50, 24, 81, 82, 83, 84, 85, 86] (by decide +kernel) (by decide +kernel)
set_option maxRecDepth 20000 in
theorem gX8_take_X3_bringTo : GoodIn wsX8_take (wsV RX8 134 RX3 yX3_bringTo wsX3_bringTo) := goodIn_app (goodIn_of _ (by decide +kernel)) ggX8_take_X3_bringTo
theorem dX8_take_0 : decode cX8_take 0 = .ok (.aload_n 0, 1) := by decide +kernel
theorem dX8_take_1 : decode cX8_take 1 = .ok (.getfield 19, 3) := by decide +kernel
theorem dX8_take_4 : decode cX8_take 4 = .ok (.iload_n 1, 1) := by decide +kernel
theorem dX8_take_5 : decode cX8_take 5 = .ok (.invokevirtual 96, 3) := by decide +kernel
theorem dX8_take_8 : decode cX8_take 8 = .ok (.ifCond .ne 5, 3) := by decide +kernel
theorem dX8_take_11 : decode cX8_take 11 = .ok (.iconst (-1), 1) := by decide +kernel
theorem dX8_take_12 : decode cX8_take 12 = .ok (.ireturn, 1) := by decide +kernel
theorem dX8_take_13 : decode cX8_take 13 = .ok (.aload_n 0, 1) := by decide +kernel
theorem dX8_take_14 : decode cX8_take 14 = .ok (.getfield 26, 3) := by decide +kernel
theorem dX8_take_17 : decode cX8_take 17 = .ok (.invokevirtual 122, 3) := by decide +kernel
theorem dX8_take_20 : decode cX8_take 20 = .ok (.ifCond .ne 18, 3) := by decide +kernel
theorem dX8_take_23 : decode cX8_take 23 = .ok (.aload_n 0, 1) := by decide +kernel
theorem dX8_take_24 : decode cX8_take 24 = .ok (.getfield 19, 3) := by decide +kernel
theorem dX8_take_27 : decode cX8_take 27 = .ok (.iload_n 1, 1) := by decide +kernel
theorem dX8_take_28 : decode cX8_take 28 = .ok (.aload_n 0, 1) := by decide +kernel
theorem dX8_take_29 : decode cX8_take 29 = .ok (.getfield 26, 3) := by decide +kernel
theorem dX8_take_32 : decode cX8_take 32 = .ok (.invokevirtual 126, 3) := by decide +kernel
theorem dX8_take_35 : decode cX8_take 35 = .ok (.ifCond .ne 6, 3) := by decide +kernel
theorem dX8_take_38 : decode cX8_take 38 = .ok (.bipush (-3), 2) := by decide +kernel
theorem dX8_take_40 : decode cX8_take 40 = .ok (.ireturn, 1) := by decide +kernel
theorem dX8_take_41 : decode cX8_take 41 = .ok (.aload_n 0, 1) := by decide +kernel
theorem dX8_take_42 : decode cX8_take 42 = .ok (.getfield 36, 3) := by decide +kernel
theorem dX8_take_45 : decode cX8_take 45 = .ok (.aload_n 0, 1) := by decide +kernel
theorem dX8_take_46 : decode cX8_take 46 = .ok (.getfield 26, 3) := by decide +kernel
theorem dX8_take_49 : decode cX8_take 49 = .ok (.invokevirtual 130, 3) := by decide +kernel
theorem dX8_take_52 : decode cX8_take 52 = .ok (.aload_n 0, 1) := by decide +kernel
theorem dX8_take_53 : decode cX8_take 53 = .ok (.getfield 26, 3) := by decide +kernel
theorem dX8_take_56 : decode cX8_take 56 = .ok (.iload_n 1, 1) := by decide +kernel
theorem dX8_take_57 : decode cX8_take 57 = .ok (.invokevirtual 109, 3) := by decide +kernel
theorem dX8_take_60 : decode cX8_take 60 = .ok (.istore_n 2, 1) := by decide +kernel
theorem dX8_take_61 : decode cX8_take 61 = .ok (.aload_n 0, 1) := by decide +kernel
theorem dX8_take_62 : decode cX8_take 62 = .ok (.getfield 26, 3) := by decide +kernel
theorem dX8_take_65 : decode cX8_take 65 = .ok (.iload_n 2, 1) := by decide +kernel
theorem dX8_take_66 : decode cX8_take 66 = .ok (.bipush 100, 2) := by decide +kernel
theorem dX8_take_68 : decode cX8_take 68 = .ok (.invokevirtual 134, 3) := by decide +kernel
theorem dX8_take_71 : decode cX8_take 71 = .ok (.iload_n 2, 1) := by decide +kernel
theorem dX8_take_72 : decode cX8_take 72 = .ok (.ireturn, 1) := by decide +kernel
set_option maxRecDepth 20000 in
theorem ggX8_put_X2_isPlace : GoodIn wsX8_put wsX2_isPlace := goodIn_r _ [7, 8, 98, 99, 100, 101, 102, 103, 104] (by decide +kernel) (by decide +kernel)
set_option maxRecDepth 20000 in
theorem gX8_put_X2_isPlace : GoodIn wsX8_put (wsV RX8 96 RX2 yX2_isPlace wsX2_isPlace) := goodIn_app (goodIn_of _ (by decide +kernel)) ggX8_put_X2_isPlace
set_option maxRecDepth 20000 in
theorem ggX8_put_X3_isSunk : GoodIn wsX8_put wsX3_isSunk := goodIn_r _ [13, 14, 105, 106, 107, 108, 109, 110] (by decide +kernel) (by decide +kernel)
set_option maxRecDepth 20000 in
theorem gX8_put_X3_isSunk : GoodIn wsX8_put (wsV RX8 122 RX3 yX3_isSunk wsX3_isSunk) := goodIn_app (goodIn_of _ (by decide +kernel)) ggX8_put_X3_isSunk
set_option maxRecDepth 20000 in
theorem ggX8_put_X3_whereIs : GoodIn wsX8_put wsX3_whereIs := goodIn_r _ [18, 19, 105, 106, 107, 108, 109, 110] (by decide +kernel) (by decide +kernel)
set_option maxRecDepth 20000 in
theorem gX8_put_X3_whereIs : GoodIn wsX8_put (wsV RX8 112 RX3 yX3_whereIs wsX3_whereIs) := goodIn_app (goodIn_of _ (by decide +kernel)) ggX8_put_X3_whereIs
set_option maxRecDepth 20000 in
theorem ggX8_put_X2_fits : GoodIn wsX8_put wsX2_fits := goodIn_r _ [23, 24, 25, 26, 6, 27, 8, 28, 29, 4, 5, 7, 30, 31, 32, 12, 33, 34, 35, 36, 37, 38, 39, 40, 41, 42, 43, 44, 98, 99, 100, 101, 102, 103, 104, 105, 106, 107, 108, 109, 110] (by decide +kernel) (by decide +kernel)
set_option maxRecDepth 20000 in
theorem gX8_put_X2_fits : GoodIn wsX8_put (wsV RX8 138 RX2 yX2_fits wsX2_fits) := goodIn_app (goodIn_of _ (by decide +kernel)) ggX8_put_X2_fits
set_option maxRecDepth 20000 in
theorem ggX8_put_X8_bringInto : GoodIn wsX8_put wsX8_bringInto := goodIn_r _ [49, 50, 2, 1, 51, 52, 53, 54, 55, 56, 57, 58, 59, 60, 61, 62, 63, 64, 65, 66, 67, 68, 69, 12, 70, 19, 71, 72, 73, 74, 39, 75, 34, 76, 14, 77, 78, 79, 6, 80, 81, 82, 83, 84, 40, 41, 42, 43, 8, 44, 85, 86, 87, 88, 89, 36, 37, 38, 90, 91, 92, 93, 94, 95, 96, 97, 111, 112, 113, 105, 106, 107, 108, 109, 110, 98, 99, 100, 101, 102, 103, 104] (by decide +kernel) (by decide +kernel)
set_option maxRecDepth 20000 in
theorem gX8_put_X8_bringInto : GoodIn wsX8_put (wsV RX8 142 RX8 yX8_bringInto wsX8_bringInto) := goodIn_app (goodIn_of _ (by decide +kernel)) ggX8_put_X8_bringInto
theorem dX8_put_0 : decode cX8_put 0 = .ok (.aload_n 0, 1) := by decide +kernel
theorem dX8_put_1 : decode cX8_put 1 = .ok (.getfield 19, 3) := by decide +kernel
theorem dX8_put_4 : decode cX8_put 4 = .ok (.iload_n 1, 1) := by decide +kernel
theorem dX8_put_5 : decode cX8_put 5 = .ok (.invokevirtual 96, 3) := by decide +kernel
theorem dX8_put_8 : decode cX8_put 8 = .ok (.ifCond .eq 14, 3) := by decide +kernel
theorem dX8_put_11 : decode cX8_put 11 = .ok (.aload_n 0, 1) := by decide +kernel
theorem dX8_put_12 : decode cX8_put 12 = .ok (.getfield 19, 3) := by decide +kernel
theorem dX8_put_15 : decode cX8_put 15 = .ok (.iload_n 2, 1) := by decide +kernel
theorem dX8_put_16 : decode cX8_put 16 = .ok (.invokevirtual 96, 3) := by decide +kernel
theorem dX8_put_19 : decode cX8_put 19 = .ok (.ifCond .ne 5, 3) := by decide +kernel
theorem dX8_put_22 : decode cX8_put 22 = .ok (.iconst (-1), 1) := by decide +kernel
theorem dX8_put_23 : decode cX8_put 23 = .ok (.ireturn, 1) := by decide +kernel
theorem dX8_put_24 : decode cX8_put 24 = .ok (.aload_n 0, 1) := by decide +kernel
theorem dX8_put_25 : decode cX8_put 25 = .ok (.getfield 26, 3) := by decide +kernel
theorem dX8_put_28 : decode cX8_put 28 = .ok (.invokevirtual 122, 3) := by decide +kernel
theorem dX8_put_31 : decode cX8_put 31 = .ok (.ifCond .ne 32, 3) := by decide +kernel
theorem dX8_put_34 : decode cX8_put 34 = .ok (.aload_n 0, 1) := by decide +kernel
theorem dX8_put_35 : decode cX8_put 35 = .ok (.getfield 26, 3) := by decide +kernel
theorem dX8_put_38 : decode cX8_put 38 = .ok (.iload_n 1, 1) := by decide +kernel
theorem dX8_put_39 : decode cX8_put 39 = .ok (.invokevirtual 112, 3) := by decide +kernel
theorem dX8_put_42 : decode cX8_put 42 = .ok (.bipush 100, 2) := by decide +kernel
theorem dX8_put_44 : decode cX8_put 44 = .ok (.if_icmp .ne 19, 3) := by decide +kernel
theorem dX8_put_47 : decode cX8_put 47 = .ok (.aload_n 0, 1) := by decide +kernel
theorem dX8_put_48 : decode cX8_put 48 = .ok (.getfield 19, 3) := by decide +kernel
theorem dX8_put_51 : decode cX8_put 51 = .ok (.iload_n 1, 1) := by decide +kernel
theorem dX8_put_52 : decode cX8_put 52 = .ok (.iload_n 2, 1) := by decide +kernel
theorem dX8_put_53 : decode cX8_put 53 = .ok (.aload_n 0, 1) := by decide +kernel
theorem dX8_put_54 : decode cX8_put 54 = .ok (.getfield 26, 3) := by decide +kernel
theorem dX8_put_57 : decode cX8_put 57 = .ok (.invokevirtual 138, 3) := by decide +kernel
theorem dX8_put_60 : decode cX8_put 60 = .ok (.ifCond .ne 6, 3) := by decide +kernel
theorem dX8_put_63 : decode cX8_put 63 = .ok (.bipush (-3), 2) := by decide +kernel
theorem dX8_put_65 : decode cX8_put 65 = .ok (.ireturn, 1) := by decide +kernel
theorem dX8_put_66 : decode cX8_put 66 = .ok (.aload_n 0, 1) := by decide +kernel
theorem dX8_put_67 : decode cX8_put 67 = .ok (.iload_n 1, 1) := by decide +kernel
theorem dX8_put_68 : decode cX8_put 68 = .ok (.iload_n 2, 1) := by decide +kernel
theorem dX8_put_69 : decode cX8_put 69 = .ok (.invokevirtual 142, 3) := by decide +kernel
theorem dX8_put_72 : decode cX8_put 72 = .ok (.ireturn, 1) := by decide +kernel
set_option maxRecDepth 20000 in
theorem ggX8_move_X2_isPlace : GoodIn wsX8_move wsX2_isPlace := goodIn_r _ [7, 8, 106, 107, 108, 109, 110, 111, 112] (by decide +kernel) (by decide +kernel)
set_option maxRecDepth 20000 in
theorem gX8_move_X2_isPlace : GoodIn wsX8_move (wsV RX8 96 RX2 yX2_isPlace wsX2_isPlace) := goodIn_app (goodIn_of _ (by decide +kernel)) ggX8_move_X2_isPlace
set_option maxRecDepth 20000 in
theorem ggX8_move_X3_isSunk : GoodIn wsX8_move wsX3_isSunk := goodIn_r _ [13, 14, 113, 114, 115, 116, 117, 118] (by decide +kernel) (by decide +kernel)
set_option maxRecDepth 20000 in
theorem gX8_move_X3_isSunk : GoodIn wsX8_move (wsV RX8 122 RX3 yX3_isSunk wsX3_isSunk) := goodIn_app (goodIn_of _ (by decide +kernel)) ggX8_move_X3_isSunk
set_option maxRecDepth 20000 in
theorem ggX8_move_X2_mayBeMoved : GoodIn wsX8_move wsX2_mayBeMoved := goodIn_r _ [18, 19, 20, 21, 12, 22, 23, 24, 25, 26, 6, 27, 28, 29, 30, 31, 8, 32, 33, 4, 5, 7, 34, 35, 36, 37, 38, 39, 40, 41, 42, 43, 44, 45, 46, 47, 48, 49, 50, 51, 52, 113, 114, 115, 116, 117, 118, 106, 107, 108, 109, 110, 111, 112] (by decide +kernel) (by decide +kernel)
set_option maxRecDepth 20000 in
theorem gX8_move_X2_mayBeMoved : GoodIn wsX8_move (wsV RX8 146 RX2 yX2_mayBeMoved wsX2_mayBeMoved) := goodIn_app (goodIn_of _ (by decide +kernel)) ggX8_move_X2_mayBeMoved
set_option maxRecDepth 20000 in
theorem ggX8_move_X8_bringInto : GoodIn wsX8_move wsX8_bringInto := goodIn_r _ [57, 58, 2, 1, 59, 60, 61, 62, 63, 64, 65, 66, 67, 68, 69, 70, 71, 72, 73, 74, 75, 76, 77, 12, 78, 23, 79, 80, 81, 82, 43, 83, 38, 84, 14, 85, 86, 87, 6, 88, 89, 90, 91, 92, 44, 45, 46, 47, 8, 48, 93, 94, 95, 96, 97, 40, 41, 42, 98, 99, 100, 101, 102, 103, 104, 105, 119, 120, 121, 113, 114, 115, 116, 117, 118, 106, 107, 108, 109, 110, 111, 112] (by decide +kernel) (by decide +kernel)
set_option maxRecDepth 20000 in
theorem gX8_move_X8_bringInto : GoodIn wsX8_move (wsV RX8 142 RX8 yX8_bringInto wsX8_bringInto) := goodIn_app (goodIn_of _ (by decide +kernel)) ggX8_move_X8_bringInto
theorem dX8_move_0 : decode cX8_move 0 = .ok (.aload_n 0, 1) := by decide +kernel
theorem dX8_move_1 : decode cX8_move 1 = .ok (.getfield 19, 3) := by decide +kernel
theorem dX8_move_4 : decode cX8_move 4 = .ok (.iload_n 1, 1) := by decide +kernel
theorem dX8_move_5 : decode cX8_move 5 = .ok (.invokevirtual 96, 3) := by decide +kernel
theorem dX8_move_8 : decode cX8_move 8 = .ok (.ifCond .eq 14, 3) := by decide +kernel
theorem dX8_move_11 : decode cX8_move 11 = .ok (.aload_n 0, 1) := by decide +kernel
theorem dX8_move_12 : decode cX8_move 12 = .ok (.getfield 19, 3) := by decide +kernel
theorem dX8_move_15 : decode cX8_move 15 = .ok (.iload_n 2, 1) := by decide +kernel
theorem dX8_move_16 : decode cX8_move 16 = .ok (.invokevirtual 96, 3) := by decide +kernel
theorem dX8_move_19 : decode cX8_move 19 = .ok (.ifCond .ne 5, 3) := by decide +kernel
theorem dX8_move_22 : decode cX8_move 22 = .ok (.iconst (-1), 1) := by decide +kernel
theorem dX8_move_23 : decode cX8_move 23 = .ok (.ireturn, 1) := by decide +kernel
theorem dX8_move_24 : decode cX8_move 24 = .ok (.aload_n 0, 1) := by decide +kernel
theorem dX8_move_25 : decode cX8_move 25 = .ok (.getfield 26, 3) := by decide +kernel
theorem dX8_move_28 : decode cX8_move 28 = .ok (.invokevirtual 122, 3) := by decide +kernel
theorem dX8_move_31 : decode cX8_move 31 = .ok (.ifCond .ne 19, 3) := by decide +kernel
theorem dX8_move_34 : decode cX8_move 34 = .ok (.aload_n 0, 1) := by decide +kernel
theorem dX8_move_35 : decode cX8_move 35 = .ok (.getfield 19, 3) := by decide +kernel
theorem dX8_move_38 : decode cX8_move 38 = .ok (.iload_n 1, 1) := by decide +kernel
theorem dX8_move_39 : decode cX8_move 39 = .ok (.iload_n 2, 1) := by decide +kernel
theorem dX8_move_40 : decode cX8_move 40 = .ok (.aload_n 0, 1) := by decide +kernel
theorem dX8_move_41 : decode cX8_move 41 = .ok (.getfield 26, 3) := by decide +kernel
theorem dX8_move_44 : decode cX8_move 44 = .ok (.invokevirtual 146, 3) := by decide +kernel
theorem dX8_move_47 : decode cX8_move 47 = .ok (.ifCond .ne 6, 3) := by decide +kernel
theorem dX8_move_50 : decode cX8_move 50 = .ok (.bipush (-3), 2) := by decide +kernel
theorem dX8_move_52 : decode cX8_move 52 = .ok (.ireturn, 1) := by decide +kernel
theorem dX8_move_53 : decode cX8_move 53 = .ok (.aload_n 0, 1) := by decide +kernel
theorem dX8_move_54 : decode cX8_move 54 = .ok (.iload_n 1, 1) := by decide +kernel
theorem dX8_move_55 : decode cX8_move 55 = .ok (.iload_n 2, 1) := by decide +kernel
theorem dX8_move_56 : decode cX8_move 56 = .ok (.invokevirtual 142, 3) := by decide +kernel
theorem dX8_move_59 : decode cX8_move 59 = .ok (.ireturn, 1) := by decide +kernel
set_option maxRecDepth 20000 in
theorem ggX8_watch_X3_isSunk : GoodIn wsX8_watch wsX3_isSunk := goodIn_r _ [8, 9, 118, 119, 120, 121, 122, 123] (by decide +kernel) (by decide +kernel)
set_option maxRecDepth 20000 in
theorem gX8_watch_X3_isSunk : GoodIn wsX8_watch (wsV RX8 122 RX3 yX3_isSunk wsX3_isSunk) := goodIn_app (goodIn_of _ (by decide +kernel)) ggX8_watch_X3_isSunk
set_option maxRecDepth 20000 in
theorem ggX8_watch_X0_remember : GoodIn wsX8_watch wsX0_remember := goodIn_r _ [14, 15, 16, 17, 18, 19, 20, 21, 22, 23, 24, 13, 25, 26, 27, 28, 7, 29, 30, 31, 32, 33, 34, 35, 36, 37, 38, 9, 124, 125, 126, 118, 119, 120, 121, 122, 123] (by decide +kernel) (by decide +kernel)
set_option maxRecDepth 20000 in
theorem gX8_watch_X0_remember : GoodIn wsX8_watch (wsV RX8 130 RX0 yX0_remember wsX0_remember) := goodIn_app (goodIn_of _ (by decide +kernel)) ggX8_watch_X0_remember
set_option maxRecDepth 20000 in
theorem ggX8_watch_X2_passWatch : GoodIn wsX8_watch wsX2_passWatch := goodIn_r _ [43, 44, 45, 46, 47, 48, 49, 50, 51, 52, 7, 53, 38, 54, 55, 56, 42, 57, 58, 59, 60, 61, 62, 37, 63, 64, 65, 66, 67, 68, 69, 70, 71, 72, 73, 74, 75, 9, 76, 77, 78, 79, 80, 81, 82, 83, 84, 85, 86, 87, 36, 88, 89, 90, 91, 92, 93, 94, 95, 30, 96, 97, 98, 99, 100, 101, 102, 103, 104, 105, 106, 107, 108, 127, 128, 129, 130, 131, 132, 133, 118, 119, 120, 121, 122, 123] (by decide +kernel) (by decide +kernel)
set_option maxRecDepth 20000 in
theorem gX8_watch_X2_passWatch : GoodIn wsX8_watch (wsV RX8 149 RX2 yX2_passWatch wsX2_passWatch) := goodIn_app (goodIn_of _ (by decide +kernel)) ggX8_watch_X2_passWatch
set_option maxRecDepth 20000 in
theorem ggX8_watch_X3_waterInside : GoodIn wsX8_watch wsX3_waterInside := goodIn_r _ [53, 38, 118, 119, 120, 121, 122, 123] (by decide +kernel) (by decide +kernel)
set_option maxRecDepth 20000 in
theorem gX8_watch_X3_waterInside : GoodIn wsX8_watch (wsV RX8 152 RX3 yX3_waterInside wsX3_waterInside) := goodIn_app (goodIn_of _ (by decide +kernel)) ggX8_watch_X3_waterInside
theorem dX8_watch_0 : decode cX8_watch 0 = .ok (.aload_n 0, 1) := by decide +kernel
theorem dX8_watch_1 : decode cX8_watch 1 = .ok (.getfield 26, 3) := by decide +kernel
theorem dX8_watch_4 : decode cX8_watch 4 = .ok (.invokevirtual 122, 3) := by decide +kernel
theorem dX8_watch_7 : decode cX8_watch 7 = .ok (.ifCond .eq 6, 3) := by decide +kernel
theorem dX8_watch_10 : decode cX8_watch 10 = .ok (.bipush (-3), 2) := by decide +kernel
theorem dX8_watch_12 : decode cX8_watch 12 = .ok (.ireturn, 1) := by decide +kernel
theorem dX8_watch_13 : decode cX8_watch 13 = .ok (.aload_n 0, 1) := by decide +kernel
theorem dX8_watch_14 : decode cX8_watch 14 = .ok (.getfield 36, 3) := by decide +kernel
theorem dX8_watch_17 : decode cX8_watch 17 = .ok (.aload_n 0, 1) := by decide +kernel
theorem dX8_watch_18 : decode cX8_watch 18 = .ok (.getfield 26, 3) := by decide +kernel
theorem dX8_watch_21 : decode cX8_watch 21 = .ok (.invokevirtual 130, 3) := by decide +kernel
theorem dX8_watch_24 : decode cX8_watch 24 = .ok (.aload_n 0, 1) := by decide +kernel
theorem dX8_watch_25 : decode cX8_watch 25 = .ok (.getfield 19, 3) := by decide +kernel
theorem dX8_watch_28 : decode cX8_watch 28 = .ok (.aload_n 0, 1) := by decide +kernel
theorem dX8_watch_29 : decode cX8_watch 29 = .ok (.getfield 26, 3) := by decide +kernel
theorem dX8_watch_32 : decode cX8_watch 32 = .ok (.invokevirtual 149, 3) := by decide +kernel
theorem dX8_watch_35 : decode cX8_watch 35 = .ok (.aload_n 0, 1) := by decide +kernel
theorem dX8_watch_36 : decode cX8_watch 36 = .ok (.getfield 26, 3) := by decide +kernel
theorem dX8_watch_39 : decode cX8_watch 39 = .ok (.invokevirtual 152, 3) := by decide +kernel
theorem dX8_watch_42 : decode cX8_watch 42 = .ok (.ireturn, 1) := by decide +kernel
set_option maxRecDepth 20000 in
theorem ggX8_back_X0_size : GoodIn wsX8_back wsX0_size := goodIn_r _ [7, 8, 46, 47, 48] (by decide +kernel) (by decide +kernel)
set_option maxRecDepth 20000 in
theorem gX8_back_X0_size : GoodIn wsX8_back (wsV RX8 155 RX0 yX0_size wsX0_size) := goodIn_app (goodIn_of _ (by decide +kernel)) ggX8_back_X0_size
set_option maxRecDepth 20000 in
theorem ggX8_back_X0_undoLast : GoodIn wsX8_back wsX0_undoLast := goodIn_r _ [12, 8, 13, 14, 15, 16, 6, 17, 18, 19, 20, 21, 22, 23, 24, 25, 26, 27, 28, 29, 30, 31, 32, 33, 34, 35, 36, 37, 46, 47, 48, 49, 50, 51, 52, 53, 54] (by decide +kernel) (by decide +kernel)
set_option maxRecDepth 20000 in
theorem gX8_back_X0_undoLast : GoodIn wsX8_back (wsV RX8 156 RX0 yX0_undoLast wsX0_undoLast) := goodIn_app (goodIn_of _ (by decide +kernel)) ggX8_back_X0_undoLast
theorem dX8_back_0 : decode cX8_back 0 = .ok (.aload_n 0, 1) := by decide +kernel
theorem dX8_back_1 : decode cX8_back 1 = .ok (.getfield 36, 3) := by decide +kernel
theorem dX8_back_4 : decode cX8_back 4 = .ok (.invokevirtual 155, 3) := by decide +kernel
theorem dX8_back_7 : decode cX8_back 7 = .ok (.iconst 1, 1) := by decide +kernel
theorem dX8_back_8 : decode cX8_back 8 = .ok (.if_icmp .ge 6, 3) := by decide +kernel
theorem dX8_back_11 : decode cX8_back 11 = .ok (.bipush (-3), 2) := by decide +kernel
theorem dX8_back_13 : decode cX8_back 13 = .ok (.ireturn, 1) := by decide +kernel
theorem dX8_back_14 : decode cX8_back 14 = .ok (.aload_n 0, 1) := by decide +kernel
theorem dX8_back_15 : decode cX8_back 15 = .ok (.getfield 36, 3) := by decide +kernel
theorem dX8_back_18 : decode cX8_back 18 = .ok (.aload_n 0, 1) := by decide +kernel
theorem dX8_back_19 : decode cX8_back 19 = .ok (.getfield 26, 3) := by decide +kernel
theorem dX8_back_22 : decode cX8_back 22 = .ok (.invokevirtual 156, 3) := by decide +kernel
theorem dX8_back_25 : decode cX8_back 25 = .ok (.aload_n 0, 1) := by decide +kernel
theorem dX8_back_26 : decode cX8_back 26 = .ok (.getfield 36, 3) := by decide +kernel
theorem dX8_back_29 : decode cX8_back 29 = .ok (.invokevirtual 155, 3) := by decide +kernel
theorem dX8_back_32 : decode cX8_back 32 = .ok (.ireturn, 1) := by decide +kernel
set_option maxRecDepth 20000 in
theorem ggX8_leak_X2_leakOf : GoodIn wsX8_leak wsX2_leakOf := goodIn_r _ [7, 8, 9, 10, 11, 12, 13, 14, 15, 16, 17, 6, 18, 19, 28, 29, 30, 31, 32, 33, 34, 35, 36, 37, 38, 39, 40] (by decide +kernel) (by decide +kernel)
set_option maxRecDepth 20000 in
theorem gX8_leak_X2_leakOf : GoodIn wsX8_leak (wsV RX8 159 RX2 yX2_leakOf wsX2_leakOf) := goodIn_app (goodIn_of _ (by decide +kernel)) ggX8_leak_X2_leakOf
theorem dX8_leak_0 : decode cX8_leak 0 = .ok (.aload_n 0, 1) := by decide +kernel
theorem dX8_leak_1 : decode cX8_leak 1 = .ok (.getfield 19, 3) := by decide +kernel
theorem dX8_leak_4 : decode cX8_leak 4 = .ok (.aload_n 0, 1) := by decide +kernel
theorem dX8_leak_5 : decode cX8_leak 5 = .ok (.getfield 26, 3) := by decide +kernel
theorem dX8_leak_8 : decode cX8_leak 8 = .ok (.invokevirtual 159, 3) := by decide +kernel
theorem dX8_leak_11 : decode cX8_leak 11 = .ok (.ireturn, 1) := by decide +kernel
set_option maxRecDepth 20000 in
theorem ggX8_floats_X3_copyFrom : GoodIn wsX8_floats wsX3_copyFrom := goodIn_r _ [8, 9, 10, 11, 12, 13, 14, 15, 16, 17, 18, 116, 117, 118, 119, 120, 121] (by decide +kernel) (by decide +kernel)
set_option maxRecDepth 20000 in
theorem gX8_floats_X3_copyFrom : GoodIn wsX8_floats (wsV RX8 163 RX3 yX3_copyFrom wsX3_copyFrom) := goodIn_app (goodIn_of _ (by decide +kernel)) ggX8_floats_X3_copyFrom
set_option maxRecDepth 20000 in
theorem ggX8_floats_X2_watchesAfloat : GoodIn wsX8_floats wsX2_watchesAfloat := goodIn_r _ [23, 24, 25, 26, 27, 28, 29, 30, 7, 31, 18, 32, 33, 34, 22, 35, 36, 37, 38, 39, 40, 16, 41, 42, 43, 44, 15, 45, 46, 47, 48, 49, 50, 51, 52, 53, 54, 55, 56, 57, 58, 59, 60, 61, 62, 63, 64, 65, 66, 67, 68, 69, 70, 71, 72, 73, 74, 75, 76, 17, 77, 78, 79, 80, 81, 82, 83, 84, 85, 86, 87, 88, 89, 90, 91, 92, 93, 94, 95, 96, 97, 98, 99, 100, 101, 102, 103, 9, 104, 105, 106, 107, 116, 117, 118, 119, 120, 121, 122, 123, 124, 125, 126, 127, 128] (by decide +kernel) (by decide +kernel)
set_option maxRecDepth 20000 in
theorem gX8_floats_X2_watchesAfloat : GoodIn wsX8_floats (wsV RX8 166 RX2 yX2_watchesAfloat wsX2_watchesAfloat) := goodIn_app (goodIn_of _ (by decide +kernel)) ggX8_floats_X2_watchesAfloat
theorem dX8_floats_0 : decode cX8_floats 0 = .ok (.aload_n 0, 1) := by decide +kernel
theorem dX8_floats_1 : decode cX8_floats 1 = .ok (.getfield 30, 3) := by decide +kernel
theorem dX8_floats_4 : decode cX8_floats 4 = .ok (.aload_n 0, 1) := by decide +kernel
theorem dX8_floats_5 : decode cX8_floats 5 = .ok (.getfield 26, 3) := by decide +kernel
theorem dX8_floats_8 : decode cX8_floats 8 = .ok (.invokevirtual 163, 3) := by decide +kernel
theorem dX8_floats_11 : decode cX8_floats 11 = .ok (.aload_n 0, 1) := by decide +kernel
theorem dX8_floats_12 : decode cX8_floats 12 = .ok (.getfield 19, 3) := by decide +kernel
theorem dX8_floats_15 : decode cX8_floats 15 = .ok (.aload_n 0, 1) := by decide +kernel
theorem dX8_floats_16 : decode cX8_floats 16 = .ok (.getfield 30, 3) := by decide +kernel
theorem dX8_floats_19 : decode cX8_floats 19 = .ok (.invokevirtual 166, 3) := by decide +kernel
theorem dX8_floats_22 : decode cX8_floats 22 = .ok (.ireturn, 1) := by decide +kernel
set_option maxRecDepth 20000 in
theorem ggX8_harm_X2_isPlace : GoodIn wsX8_harm wsX2_isPlace := goodIn_r _ [8, 9, 70, 71, 72, 73, 74, 75, 76] (by decide +kernel) (by decide +kernel)
set_option maxRecDepth 20000 in
theorem gX8_harm_X2_isPlace : GoodIn wsX8_harm (wsV RX8 96 RX2 yX2_isPlace wsX2_isPlace) := goodIn_app (goodIn_of _ (by decide +kernel)) ggX8_harm_X2_isPlace
set_option maxRecDepth 20000 in
theorem ggX8_harm_X3_isOpen : GoodIn wsX8_harm wsX3_isOpen := goodIn_r _ [14, 15, 77, 78, 79, 80, 81, 82] (by decide +kernel) (by decide +kernel)
set_option maxRecDepth 20000 in
theorem gX8_harm_X3_isOpen : GoodIn wsX8_harm (wsV RX8 169 RX3 yX3_isOpen wsX3_isOpen) := goodIn_app (goodIn_of _ (by decide +kernel)) ggX8_harm_X3_isOpen
set_option maxRecDepth 20000 in
theorem ggX8_harm_X3_copyFrom : GoodIn wsX8_harm wsX3_copyFrom := goodIn_r _ [19, 20, 21, 22, 23, 24, 25, 26, 15, 27, 28, 77, 78, 79, 80, 81, 82] (by decide +kernel) (by decide +kernel)
set_option maxRecDepth 20000 in
theorem gX8_harm_X3_copyFrom : GoodIn wsX8_harm (wsV RX8 163 RX3 yX3_copyFrom wsX3_copyFrom) := goodIn_app (goodIn_of _ (by decide +kernel)) ggX8_harm_X3_copyFrom
set_option maxRecDepth 20000 in
theorem ggX8_harm_X3_timberIn : GoodIn wsX8_harm wsX3_timberIn := goodIn_r _ [32, 15, 77, 78, 79, 80, 81, 82] (by decide +kernel) (by decide +kernel)
set_option maxRecDepth 20000 in
theorem gX8_harm_X3_timberIn : GoodIn wsX8_harm (wsV RX8 109 RX3 yX3_timberIn wsX3_timberIn) := goodIn_app (goodIn_of _ (by decide +kernel)) ggX8_harm_X3_timberIn
set_option maxRecDepth 20000 in
theorem ggX8_harm_X3_bringTo : GoodIn wsX8_harm wsX3_bringTo := goodIn_r _ [36, 20, 15, 77, 78, 79, 80, 81, 82] (by decide +kernel) (by decide +kernel)
set_option maxRecDepth 20000 in
theorem gX8_harm_X3_bringTo : GoodIn wsX8_harm (wsV RX8 134 RX3 yX3_bringTo wsX3_bringTo) := goodIn_app (goodIn_of _ (by decide +kernel)) ggX8_harm_X3_bringTo
set_option maxRecDepth 20000 in
theorem ggX8_harm_X2_letComeDown : GoodIn wsX8_harm wsX2_letComeDown := goodIn_r _ [40, 9, 41, 11, 12, 13, 14, 15, 42, 43, 44, 7, 45, 46, 47, 48, 49, 50, 51, 30, 31, 32, 52, 34, 35, 36, 20, 70, 71, 72, 73, 74, 75, 76, 77, 78, 79, 80, 81, 82] (by decide +kernel) (by decide +kernel)
set_option maxRecDepth 20000 in
theorem gX8_harm_X2_letComeDown : GoodIn wsX8_harm (wsV RX8 172 RX2 yX2_letComeDown wsX2_letComeDown) := goodIn_app (goodIn_of _ (by decide +kernel)) ggX8_harm_X2_letComeDown
set_option maxRecDepth 20000 in
theorem ggX8_harm_X2_leakOf : GoodIn wsX8_harm wsX2_leakOf := goodIn_r _ [56, 9, 41, 11, 12, 13, 14, 15, 57, 58, 59, 7, 60, 61, 70, 71, 72, 73, 74, 75, 76, 77, 78, 79, 80, 81, 82] (by decide +kernel) (by decide +kernel)
set_option maxRecDepth 20000 in
theorem gX8_harm_X2_leakOf : GoodIn wsX8_harm (wsV RX8 159 RX2 yX2_leakOf wsX2_leakOf) := goodIn_app (goodIn_of _ (by decide +kernel)) ggX8_harm_X2_leakOf
theorem dX8_harm_0 : decode cX8_harm 0 = .ok (.aload_n 0, 1) := by decide +kernel
theorem dX8_harm_1 : decode cX8_harm 1 = .ok (.getfield 19, 3) := by decide +kernel
theorem dX8_harm_4 : decode cX8_harm 4 = .ok (.iload_n 1, 1) := by decide +kernel
theorem dX8_harm_5 : decode cX8_harm 5 = .ok (.invokevirtual 96, 3) := by decide +kernel
theorem dX8_harm_8 : decode cX8_harm 8 = .ok (.ifCond .ne 5, 3) := by decide +kernel
theorem dX8_harm_11 : decode cX8_harm 11 = .ok (.iconst (-1), 1) := by decide +kernel
theorem dX8_harm_12 : decode cX8_harm 12 = .ok (.ireturn, 1) := by decide +kernel
theorem dX8_harm_13 : decode cX8_harm 13 = .ok (.aload_n 0, 1) := by decide +kernel
theorem dX8_harm_14 : decode cX8_harm 14 = .ok (.getfield 26, 3) := by decide +kernel
theorem dX8_harm_17 : decode cX8_harm 17 = .ok (.iload_n 1, 1) := by decide +kernel
theorem dX8_harm_18 : decode cX8_harm 18 = .ok (.invokevirtual 169, 3) := by decide +kernel
theorem dX8_harm_21 : decode cX8_harm 21 = .ok (.ifCond .eq 6, 3) := by decide +kernel
theorem dX8_harm_24 : decode cX8_harm 24 = .ok (.bipush (-3), 2) := by decide +kernel
theorem dX8_harm_26 : decode cX8_harm 26 = .ok (.ireturn, 1) := by decide +kernel
theorem dX8_harm_27 : decode cX8_harm 27 = .ok (.aload_n 0, 1) := by decide +kernel
theorem dX8_harm_28 : decode cX8_harm 28 = .ok (.getfield 30, 3) := by decide +kernel
theorem dX8_harm_31 : decode cX8_harm 31 = .ok (.aload_n 0, 1) := by decide +kernel
theorem dX8_harm_32 : decode cX8_harm 32 = .ok (.getfield 26, 3) := by decide +kernel
theorem dX8_harm_35 : decode cX8_harm 35 = .ok (.invokevirtual 163, 3) := by decide +kernel
theorem dX8_harm_38 : decode cX8_harm 38 = .ok (.aload_n 0, 1) := by decide +kernel
theorem dX8_harm_39 : decode cX8_harm 39 = .ok (.getfield 30, 3) := by decide +kernel
theorem dX8_harm_42 : decode cX8_harm 42 = .ok (.aload_n 0, 1) := by decide +kernel
theorem dX8_harm_43 : decode cX8_harm 43 = .ok (.getfield 30, 3) := by decide +kernel
theorem dX8_harm_46 : decode cX8_harm 46 = .ok (.iload_n 1, 1) := by decide +kernel
theorem dX8_harm_47 : decode cX8_harm 47 = .ok (.invokevirtual 109, 3) := by decide +kernel
theorem dX8_harm_50 : decode cX8_harm 50 = .ok (.sipush 200, 3) := by decide +kernel
theorem dX8_harm_53 : decode cX8_harm 53 = .ok (.invokevirtual 134, 3) := by decide +kernel
theorem dX8_harm_56 : decode cX8_harm 56 = .ok (.aload_n 0, 1) := by decide +kernel
theorem dX8_harm_57 : decode cX8_harm 57 = .ok (.getfield 19, 3) := by decide +kernel
theorem dX8_harm_60 : decode cX8_harm 60 = .ok (.aload_n 0, 1) := by decide +kernel
theorem dX8_harm_61 : decode cX8_harm 61 = .ok (.getfield 30, 3) := by decide +kernel
theorem dX8_harm_64 : decode cX8_harm 64 = .ok (.invokevirtual 172, 3) := by decide +kernel
theorem dX8_harm_67 : decode cX8_harm 67 = .ok (.aload_n 0, 1) := by decide +kernel
theorem dX8_harm_68 : decode cX8_harm 68 = .ok (.getfield 19, 3) := by decide +kernel
theorem dX8_harm_71 : decode cX8_harm 71 = .ok (.aload_n 0, 1) := by decide +kernel
theorem dX8_harm_72 : decode cX8_harm 72 = .ok (.getfield 30, 3) := by decide +kernel
theorem dX8_harm_75 : decode cX8_harm 75 = .ok (.invokevirtual 159, 3) := by decide +kernel
theorem dX8_harm_78 : decode cX8_harm 78 = .ok (.ireturn, 1) := by decide +kernel
set_option maxRecDepth 20000 in
theorem ggX8_may_X2_isPlace : GoodIn wsX8_may wsX2_isPlace := goodIn_r _ [7, 8, 61, 62, 63, 64, 65, 66, 67] (by decide +kernel) (by decide +kernel)
set_option maxRecDepth 20000 in
theorem gX8_may_X2_isPlace : GoodIn wsX8_may (wsV RX8 96 RX2 yX2_isPlace wsX2_isPlace) := goodIn_app (goodIn_of _ (by decide +kernel)) ggX8_may_X2_isPlace
set_option maxRecDepth 20000 in
theorem ggX8_may_X3_isSunk : GoodIn wsX8_may wsX3_isSunk := goodIn_r _ [13, 14, 68, 69, 70, 71, 72, 73] (by decide +kernel) (by decide +kernel)
set_option maxRecDepth 20000 in
theorem gX8_may_X3_isSunk : GoodIn wsX8_may (wsV RX8 122 RX3 yX3_isSunk wsX3_isSunk) := goodIn_app (goodIn_of _ (by decide +kernel)) ggX8_may_X3_isSunk
set_option maxRecDepth 20000 in
theorem ggX8_may_X2_mayBeMoved : GoodIn wsX8_may wsX2_mayBeMoved := goodIn_r _ [18, 19, 20, 21, 12, 22, 23, 24, 25, 26, 6, 27, 28, 29, 30, 31, 8, 32, 33, 4, 5, 7, 34, 35, 36, 37, 38, 39, 40, 41, 42, 43, 44, 45, 46, 47, 48, 49, 50, 51, 52, 68, 69, 70, 71, 72, 73, 61, 62, 63, 64, 65, 66, 67] (by decide +kernel) (by decide +kernel)
set_option maxRecDepth 20000 in
theorem gX8_may_X2_mayBeMoved : GoodIn wsX8_may (wsV RX8 146 RX2 yX2_mayBeMoved wsX2_mayBeMoved) := goodIn_app (goodIn_of _ (by decide +kernel)) ggX8_may_X2_mayBeMoved
theorem dX8_may_0 : decode cX8_may 0 = .ok (.aload_n 0, 1) := by decide +kernel
theorem dX8_may_1 : decode cX8_may 1 = .ok (.getfield 19, 3) := by decide +kernel
theorem dX8_may_4 : decode cX8_may 4 = .ok (.iload_n 1, 1) := by decide +kernel
theorem dX8_may_5 : decode cX8_may 5 = .ok (.invokevirtual 96, 3) := by decide +kernel
theorem dX8_may_8 : decode cX8_may 8 = .ok (.ifCond .eq 14, 3) := by decide +kernel
theorem dX8_may_11 : decode cX8_may 11 = .ok (.aload_n 0, 1) := by decide +kernel
theorem dX8_may_12 : decode cX8_may 12 = .ok (.getfield 19, 3) := by decide +kernel
theorem dX8_may_15 : decode cX8_may 15 = .ok (.iload_n 2, 1) := by decide +kernel
theorem dX8_may_16 : decode cX8_may 16 = .ok (.invokevirtual 96, 3) := by decide +kernel
theorem dX8_may_19 : decode cX8_may 19 = .ok (.ifCond .ne 5, 3) := by decide +kernel
theorem dX8_may_22 : decode cX8_may 22 = .ok (.iconst (-1), 1) := by decide +kernel
theorem dX8_may_23 : decode cX8_may 23 = .ok (.ireturn, 1) := by decide +kernel
theorem dX8_may_24 : decode cX8_may 24 = .ok (.aload_n 0, 1) := by decide +kernel
theorem dX8_may_25 : decode cX8_may 25 = .ok (.getfield 26, 3) := by decide +kernel
theorem dX8_may_28 : decode cX8_may 28 = .ok (.invokevirtual 122, 3) := by decide +kernel
theorem dX8_may_31 : decode cX8_may 31 = .ok (.ifCond .ne 23, 3) := by decide +kernel
theorem dX8_may_34 : decode cX8_may 34 = .ok (.aload_n 0, 1) := by decide +kernel
theorem dX8_may_35 : decode cX8_may 35 = .ok (.getfield 19, 3) := by decide +kernel
theorem dX8_may_38 : decode cX8_may 38 = .ok (.iload_n 1, 1) := by decide +kernel
theorem dX8_may_39 : decode cX8_may 39 = .ok (.iload_n 2, 1) := by decide +kernel
theorem dX8_may_40 : decode cX8_may 40 = .ok (.aload_n 0, 1) := by decide +kernel
theorem dX8_may_41 : decode cX8_may 41 = .ok (.getfield 26, 3) := by decide +kernel
theorem dX8_may_44 : decode cX8_may 44 = .ok (.invokevirtual 146, 3) := by decide +kernel
theorem dX8_may_47 : decode cX8_may 47 = .ok (.ifCond .eq 7, 3) := by decide +kernel
theorem dX8_may_50 : decode cX8_may 50 = .ok (.iconst 1, 1) := by decide +kernel
theorem dX8_may_51 : decode cX8_may 51 = .ok (.goto 4, 3) := by decide +kernel
theorem dX8_may_54 : decode cX8_may 54 = .ok (.iconst 0, 1) := by decide +kernel
theorem dX8_may_55 : decode cX8_may 55 = .ok (.ireturn, 1) := by decide +kernel
set_option maxRecDepth 20000 in
theorem ggX8_best_X8_refusalOfBest : GoodIn wsX8_best wsX8_refusalOfBest := goodIn_r _ [7, 2, 8, 9, 10, 11, 12, 13, 133, 134, 135, 136, 137, 138, 139, 140, 141, 142, 143, 144, 145, 146] (by decide +kernel) (by decide +kernel)
set_option maxRecDepth 20000 in
theorem gX8_best_X8_refusalOfBest : GoodIn wsX8_best (wsV RX8 175 RX8 yX8_refusalOfBest wsX8_refusalOfBest) := goodIn_app (goodIn_of _ (by decide +kernel)) ggX8_best_X8_refusalOfBest
set_option maxRecDepth 20000 in
theorem ggX8_best_X5_leastLeak : GoodIn wsX8_best wsX5_leastLeak := goodIn_r _ [18, 19, 20, 21, 22, 23, 24, 25, 26, 27, 28, 29, 30, 31, 32, 11, 33, 34, 35, 36, 37, 38, 39, 40, 41, 42, 43, 44, 45, 46, 47, 48, 49, 50, 51, 52, 53, 54, 55, 56, 57, 58, 59, 60, 61, 62, 63, 64, 65, 66, 13, 67, 68, 69, 70, 71, 72, 73, 74, 75, 76, 77, 78, 79, 80, 81, 82, 83, 84, 85, 86, 87, 88, 89, 90, 91, 92, 93, 94, 95, 96, 97, 98, 99, 100, 101, 102, 103, 104, 105, 106, 107, 108, 109, 110, 111, 112, 113, 114, 115, 116, 117, 118, 119, 120, 121, 122, 123, 124, 125, 126, 127, 128, 129, 130, 131, 132, 147, 148, 149, 150, 151, 152, 153, 154, 155, 156, 157, 158, 141, 142, 143, 144, 145, 146, 159, 160, 161, 162, 163] (by decide +kernel) (by decide +kernel)
set_option maxRecDepth 20000 in
theorem gX8_best_X5_leastLeak : GoodIn wsX8_best (wsV RX8 178 RX5 yX5_leastLeak wsX5_leastLeak) := goodIn_app (goodIn_of _ (by decide +kernel)) ggX8_best_X5_leastLeak
theorem dX8_best_0 : decode cX8_best 0 = .ok (.aload_n 0, 1) := by decide +kernel
theorem dX8_best_1 : decode cX8_best 1 = .ok (.iload_n 1, 1) := by decide +kernel
theorem dX8_best_2 : decode cX8_best 2 = .ok (.invokevirtual 175, 3) := by decide +kernel
theorem dX8_best_5 : decode cX8_best 5 = .ok (.istore_n 2, 1) := by decide +kernel
theorem dX8_best_6 : decode cX8_best 6 = .ok (.iload_n 2, 1) := by decide +kernel
theorem dX8_best_7 : decode cX8_best 7 = .ok (.ifCond .eq 5, 3) := by decide +kernel
theorem dX8_best_10 : decode cX8_best 10 = .ok (.iload_n 2, 1) := by decide +kernel
theorem dX8_best_11 : decode cX8_best 11 = .ok (.ireturn, 1) := by decide +kernel
theorem dX8_best_12 : decode cX8_best 12 = .ok (.aload_n 0, 1) := by decide +kernel
theorem dX8_best_13 : decode cX8_best 13 = .ok (.getfield 59, 3) := by decide +kernel
theorem dX8_best_16 : decode cX8_best 16 = .ok (.aload_n 0, 1) := by decide +kernel
theorem dX8_best_17 : decode cX8_best 17 = .ok (.getfield 26, 3) := by decide +kernel
theorem dX8_best_20 : decode cX8_best 20 = .ok (.iload_n 1, 1) := by decide +kernel
theorem dX8_best_21 : decode cX8_best 21 = .ok (.invokevirtual 178, 3) := by decide +kernel
theorem dX8_best_24 : decode cX8_best 24 = .ok (.ireturn, 1) := by decide +kernel
set_option maxRecDepth 20000 in
theorem ggX8_bestAt_X8_refusalOfBest : GoodIn wsX8_bestAt wsX8_refusalOfBest := goodIn_r _ [7, 2, 8, 9, 10, 11, 12, 13, 137, 138, 139, 140, 141, 142, 143, 144, 145, 146, 147, 148, 149, 150] (by decide +kernel) (by decide +kernel)
set_option maxRecDepth 20000 in
theorem gX8_bestAt_X8_refusalOfBest : GoodIn wsX8_bestAt (wsV RX8 175 RX8 yX8_refusalOfBest wsX8_refusalOfBest) := goodIn_app (goodIn_of _ (by decide +kernel)) ggX8_bestAt_X8_refusalOfBest
set_option maxRecDepth 20000 in
theorem ggX8_bestAt_X5_leastLeak : GoodIn wsX8_bestAt wsX5_leastLeak := goodIn_r _ [18, 19, 20, 21, 22, 23, 24, 25, 26, 27, 28, 29, 30, 31, 32, 11, 33, 34, 35, 36, 37, 38, 39, 40, 41, 42, 43, 44, 45, 46, 47, 48, 49, 50, 51, 52, 53, 54, 55, 56, 57, 58, 59, 60, 61, 62, 63, 64, 65, 66, 13, 67, 68, 69, 70, 71, 72, 73, 74, 75, 76, 77, 78, 79, 80, 81, 82, 83, 84, 85, 86, 87, 88, 89, 90, 91, 92, 93, 94, 95, 96, 97, 98, 99, 100, 101, 102, 103, 104, 105, 106, 107, 108, 109, 110, 111, 112, 113, 114, 115, 116, 117, 118, 119, 120, 121, 122, 123, 124, 125, 126, 127, 128, 129, 130, 131, 132, 151, 152, 153, 154, 155, 156, 157, 158, 159, 160, 161, 162, 145, 146, 147, 148, 149, 150, 163, 164, 165, 166, 167] (by decide +kernel) (by decide +kernel)
set_option maxRecDepth 20000 in
theorem gX8_bestAt_X5_leastLeak : GoodIn wsX8_bestAt (wsV RX8 178 RX5 yX5_leastLeak wsX5_leastLeak) := goodIn_app (goodIn_of _ (by decide +kernel)) ggX8_bestAt_X5_leastLeak
set_option maxRecDepth 20000 in
theorem ggX8_bestAt_X5_foundMove : GoodIn wsX8_bestAt wsX5_foundMove := goodIn_r _ [136, 20, 23, 151, 152, 153, 154, 155] (by decide +kernel) (by decide +kernel)
set_option maxRecDepth 20000 in
theorem gX8_bestAt_X5_foundMove : GoodIn wsX8_bestAt (wsV RX8 182 RX5 yX5_foundMove wsX5_foundMove) := goodIn_app (goodIn_of _ (by decide +kernel)) ggX8_bestAt_X5_foundMove
theorem dX8_bestAt_0 : decode cX8_bestAt 0 = .ok (.aload_n 0, 1) := by decide +kernel
theorem dX8_bestAt_1 : decode cX8_bestAt 1 = .ok (.iload_n 1, 1) := by decide +kernel
theorem dX8_bestAt_2 : decode cX8_bestAt 2 = .ok (.invokevirtual 175, 3) := by decide +kernel
theorem dX8_bestAt_5 : decode cX8_bestAt 5 = .ok (.istore_n 3, 1) := by decide +kernel
theorem dX8_bestAt_6 : decode cX8_bestAt 6 = .ok (.iload_n 3, 1) := by decide +kernel
theorem dX8_bestAt_7 : decode cX8_bestAt 7 = .ok (.ifCond .eq 5, 3) := by decide +kernel
theorem dX8_bestAt_10 : decode cX8_bestAt 10 = .ok (.iload_n 3, 1) := by decide +kernel
theorem dX8_bestAt_11 : decode cX8_bestAt 11 = .ok (.ireturn, 1) := by decide +kernel
theorem dX8_bestAt_12 : decode cX8_bestAt 12 = .ok (.aload_n 0, 1) := by decide +kernel
theorem dX8_bestAt_13 : decode cX8_bestAt 13 = .ok (.getfield 59, 3) := by decide +kernel
theorem dX8_bestAt_16 : decode cX8_bestAt 16 = .ok (.aload_n 0, 1) := by decide +kernel
theorem dX8_bestAt_17 : decode cX8_bestAt 17 = .ok (.getfield 26, 3) := by decide +kernel
theorem dX8_bestAt_20 : decode cX8_bestAt 20 = .ok (.iload_n 1, 1) := by decide +kernel
theorem dX8_bestAt_21 : decode cX8_bestAt 21 = .ok (.invokevirtual 178, 3) := by decide +kernel
theorem dX8_bestAt_24 : decode cX8_bestAt 24 = .ok (.pop, 1) := by decide +kernel
theorem dX8_bestAt_25 : decode cX8_bestAt 25 = .ok (.aload_n 0, 1) := by decide +kernel
theorem dX8_bestAt_26 : decode cX8_bestAt 26 = .ok (.getfield 59, 3) := by decide +kernel
theorem dX8_bestAt_29 : decode cX8_bestAt 29 = .ok (.iload_n 2, 1) := by decide +kernel
theorem dX8_bestAt_30 : decode cX8_bestAt 30 = .ok (.invokevirtual 182, 3) := by decide +kernel
theorem dX8_bestAt_33 : decode cX8_bestAt 33 = .ok (.ireturn, 1) := by decide +kernel
set_option maxRecDepth 20000 in
theorem ggX8_port_X8_refusalOfPort : GoodIn wsX8_port wsX8_refusalOfPort := goodIn_r _ [7, 2, 8, 9, 10, 11, 12, 13, 192, 193, 194, 195, 196, 197, 198, 199, 200, 201, 202, 203, 204, 205] (by decide +kernel) (by decide +kernel)
set_option maxRecDepth 20000 in
theorem gX8_port_X8_refusalOfPort : GoodIn wsX8_port (wsV RX8 185 RX8 yX8_refusalOfPort wsX8_refusalOfPort) := goodIn_app (goodIn_of _ (by decide +kernel)) ggX8_port_X8_refusalOfPort
set_option maxRecDepth 20000 in
theorem ggX8_port_X5_fewestMoves : GoodIn wsX8_port wsX5_fewestMoves := goodIn_r _ [18, 19, 20, 21, 22, 23, 24, 25, 26, 27, 28, 29, 30, 31, 32, 33, 34, 35, 36, 37, 38, 39, 40, 41, 42, 11, 43, 44, 45, 46, 47, 48, 49, 50, 51, 52, 13, 53, 54, 55, 56, 57, 58, 59, 60, 61, 62, 63, 64, 65, 66, 67, 68, 69, 70, 71, 72, 73, 74, 75, 76, 77, 78, 79, 80, 81, 82, 83, 84, 85, 86, 87, 88, 89, 90, 91, 92, 93, 94, 95, 96, 97, 98, 99, 100, 101, 102, 103, 104, 105, 106, 107, 108, 109, 110, 111, 112, 113, 114, 115, 116, 117, 118, 119, 120, 121, 122, 123, 124, 125, 126, 9, 10, 12, 127, 128, 129, 130, 131, 132, 133, 134, 135, 136, 137, 138, 139, 140, 141, 142, 143, 144, 145, 146, 147, 148, 149, 150, 151, 152, 153, 154, 155, 156, 157, 158, 159, 160, 161, 162, 163, 164, 165, 166, 167, 168, 169, 170, 171, 172, 173, 174, 175, 176, 177, 178, 179, 180, 181, 182, 183, 184, 185, 186, 187, 188, 189, 190, 191, 206, 207, 208, 209, 210, 211, 212, 213, 214, 215, 200, 201, 202, 203, 204, 205, 216, 217, 218, 219, 220, 221, 222] (by decide +kernel) (by decide +kernel)
set_option maxRecDepth 20000 in
theorem gX8_port_X5_fewestMoves : GoodIn wsX8_port (wsV RX8 188 RX5 yX5_fewestMoves wsX5_fewestMoves) := goodIn_app (goodIn_of _ (by decide +kernel)) ggX8_port_X5_fewestMoves
theorem dX8_port_0 : decode cX8_port 0 = .ok (.aload_n 0, 1) := by decide +kernel
theorem dX8_port_1 : decode cX8_port 1 = .ok (.iload_n 1, 1) := by decide +kernel
theorem dX8_port_2 : decode cX8_port 2 = .ok (.invokevirtual 185, 3) := by decide +kernel
theorem dX8_port_5 : decode cX8_port 5 = .ok (.istore_n 2, 1) := by decide +kernel
theorem dX8_port_6 : decode cX8_port 6 = .ok (.iload_n 2, 1) := by decide +kernel
theorem dX8_port_7 : decode cX8_port 7 = .ok (.ifCond .eq 5, 3) := by decide +kernel
theorem dX8_port_10 : decode cX8_port 10 = .ok (.iload_n 2, 1) := by decide +kernel
theorem dX8_port_11 : decode cX8_port 11 = .ok (.ireturn, 1) := by decide +kernel
theorem dX8_port_12 : decode cX8_port 12 = .ok (.aload_n 0, 1) := by decide +kernel
theorem dX8_port_13 : decode cX8_port 13 = .ok (.getfield 59, 3) := by decide +kernel
theorem dX8_port_16 : decode cX8_port 16 = .ok (.aload_n 0, 1) := by decide +kernel
theorem dX8_port_17 : decode cX8_port 17 = .ok (.getfield 26, 3) := by decide +kernel
theorem dX8_port_20 : decode cX8_port 20 = .ok (.iload_n 1, 1) := by decide +kernel
theorem dX8_port_21 : decode cX8_port 21 = .ok (.invokevirtual 188, 3) := by decide +kernel
theorem dX8_port_24 : decode cX8_port 24 = .ok (.ireturn, 1) := by decide +kernel
set_option maxRecDepth 20000 in
theorem ggX8_portAt_X8_refusalOfPort : GoodIn wsX8_portAt wsX8_refusalOfPort := goodIn_r _ [7, 2, 8, 9, 10, 11, 12, 13, 196, 197, 198, 199, 200, 201, 202, 203, 204, 205, 206, 207, 208, 209] (by decide +kernel) (by decide +kernel)
set_option maxRecDepth 20000 in
theorem gX8_portAt_X8_refusalOfPort : GoodIn wsX8_portAt (wsV RX8 185 RX8 yX8_refusalOfPort wsX8_refusalOfPort) := goodIn_app (goodIn_of _ (by decide +kernel)) ggX8_portAt_X8_refusalOfPort
set_option maxRecDepth 20000 in
theorem ggX8_portAt_X5_fewestMoves : GoodIn wsX8_portAt wsX5_fewestMoves := goodIn_r _ [18, 19, 20, 21, 22, 23, 24, 25, 26, 27, 28, 29, 30, 31, 32, 33, 34, 35, 36, 37, 38, 39, 40, 41, 42, 11, 43, 44, 45, 46, 47, 48, 49, 50, 51, 52, 13, 53, 54, 55, 56, 57, 58, 59, 60, 61, 62, 63, 64, 65, 66, 67, 68, 69, 70, 71, 72, 73, 74, 75, 76, 77, 78, 79, 80, 81, 82, 83, 84, 85, 86, 87, 88, 89, 90, 91, 92, 93, 94, 95, 96, 97, 98, 99, 100, 101, 102, 103, 104, 105, 106, 107, 108, 109, 110, 111, 112, 113, 114, 115, 116, 117, 118, 119, 120, 121, 122, 123, 124, 125, 126, 9, 10, 12, 127, 128, 129, 130, 131, 132, 133, 134, 135, 136, 137, 138, 139, 140, 141, 142, 143, 144, 145, 146, 147, 148, 149, 150, 151, 152, 153, 154, 155, 156, 157, 158, 159, 160, 161, 162, 163, 164, 165, 166, 167, 168, 169, 170, 171, 172, 173, 174, 175, 176, 177, 178, 179, 180, 181, 182, 183, 184, 185, 186, 187, 188, 189, 190, 191, 210, 211, 212, 213, 214, 215, 216, 217, 218, 219, 204, 205, 206, 207, 208, 209, 220, 221, 222, 223, 224, 225, 226] (by decide +kernel) (by decide +kernel)
set_option maxRecDepth 20000 in
theorem gX8_portAt_X5_fewestMoves : GoodIn wsX8_portAt (wsV RX8 188 RX5 yX5_fewestMoves wsX5_fewestMoves) := goodIn_app (goodIn_of _ (by decide +kernel)) ggX8_portAt_X5_fewestMoves
set_option maxRecDepth 20000 in
theorem ggX8_portAt_X5_foundMove : GoodIn wsX8_portAt wsX5_foundMove := goodIn_r _ [195, 23, 24, 210, 211, 212, 213, 214] (by decide +kernel) (by decide +kernel)
set_option maxRecDepth 20000 in
theorem gX8_portAt_X5_foundMove : GoodIn wsX8_portAt (wsV RX8 182 RX5 yX5_foundMove wsX5_foundMove) := goodIn_app (goodIn_of _ (by decide +kernel)) ggX8_portAt_X5_foundMove
theorem dX8_portAt_0 : decode cX8_portAt 0 = .ok (.aload_n 0, 1) := by decide +kernel
theorem dX8_portAt_1 : decode cX8_portAt 1 = .ok (.iload_n 1, 1) := by decide +kernel
theorem dX8_portAt_2 : decode cX8_portAt 2 = .ok (.invokevirtual 185, 3) := by decide +kernel
theorem dX8_portAt_5 : decode cX8_portAt 5 = .ok (.istore_n 3, 1) := by decide +kernel
theorem dX8_portAt_6 : decode cX8_portAt 6 = .ok (.iload_n 3, 1) := by decide +kernel
theorem dX8_portAt_7 : decode cX8_portAt 7 = .ok (.ifCond .eq 5, 3) := by decide +kernel
theorem dX8_portAt_10 : decode cX8_portAt 10 = .ok (.iload_n 3, 1) := by decide +kernel
theorem dX8_portAt_11 : decode cX8_portAt 11 = .ok (.ireturn, 1) := by decide +kernel
theorem dX8_portAt_12 : decode cX8_portAt 12 = .ok (.aload_n 0, 1) := by decide +kernel
theorem dX8_portAt_13 : decode cX8_portAt 13 = .ok (.getfield 59, 3) := by decide +kernel
theorem dX8_portAt_16 : decode cX8_portAt 16 = .ok (.aload_n 0, 1) := by decide +kernel
theorem dX8_portAt_17 : decode cX8_portAt 17 = .ok (.getfield 26, 3) := by decide +kernel
theorem dX8_portAt_20 : decode cX8_portAt 20 = .ok (.iload_n 1, 1) := by decide +kernel
theorem dX8_portAt_21 : decode cX8_portAt 21 = .ok (.invokevirtual 188, 3) := by decide +kernel
theorem dX8_portAt_24 : decode cX8_portAt 24 = .ok (.pop, 1) := by decide +kernel
theorem dX8_portAt_25 : decode cX8_portAt 25 = .ok (.aload_n 0, 1) := by decide +kernel
theorem dX8_portAt_26 : decode cX8_portAt 26 = .ok (.getfield 59, 3) := by decide +kernel
theorem dX8_portAt_29 : decode cX8_portAt 29 = .ok (.iload_n 2, 1) := by decide +kernel
theorem dX8_portAt_30 : decode cX8_portAt 30 = .ok (.invokevirtual 182, 3) := by decide +kernel
theorem dX8_portAt_33 : decode cX8_portAt 33 = .ok (.ireturn, 1) := by decide +kernel
set_option maxRecDepth 20000 in
theorem ggX8_storm_X2_leakOf : GoodIn wsX8_storm wsX2_leakOf := goodIn_r _ [9, 10, 11, 12, 13, 14, 15, 16, 17, 18, 19, 8, 20, 21, 63, 64, 65, 66, 67, 68, 69, 70, 71, 72, 73, 74, 75] (by decide +kernel) (by decide +kernel)
set_option maxRecDepth 20000 in
theorem gX8_storm_X2_leakOf : GoodIn wsX8_storm (wsV RX8 159 RX2 yX2_leakOf wsX2_leakOf) := goodIn_app (goodIn_of _ (by decide +kernel)) ggX8_storm_X2_leakOf
set_option maxRecDepth 20000 in
theorem ggX8_storm_X1_begin : GoodIn wsX8_storm wsX1_begin := goodIn_r _ [26, 27, 28, 76, 77] (by decide +kernel) (by decide +kernel)
set_option maxRecDepth 20000 in
theorem gX8_storm_X1_begin : GoodIn wsX8_storm (wsV RX8 193 RX1 yX1_begin wsX1_begin) := goodIn_app (goodIn_of _ (by decide +kernel)) ggX8_storm_X1_begin
set_option maxRecDepth 20000 in
theorem ggX8_storm_X2_places : GoodIn wsX8_storm wsX2_places := goodIn_r _ [32, 10, 63, 64, 65, 66, 67, 68, 69] (by decide +kernel) (by decide +kernel)
set_option maxRecDepth 20000 in
theorem gX8_storm_X2_places : GoodIn wsX8_storm (wsV RX8 93 RX2 yX2_places wsX2_places) := goodIn_app (goodIn_of _ (by decide +kernel)) ggX8_storm_X2_places
set_option maxRecDepth 20000 in
theorem ggX8_storm_X3_isOpen : GoodIn wsX8_storm wsX3_isOpen := goodIn_r _ [15, 16, 70, 71, 72, 73, 74, 75] (by decide +kernel) (by decide +kernel)
set_option maxRecDepth 20000 in
theorem gX8_storm_X3_isOpen : GoodIn wsX8_storm (wsV RX8 169 RX3 yX3_isOpen wsX3_isOpen) := goodIn_app (goodIn_of _ (by decide +kernel)) ggX8_storm_X3_isOpen
set_option maxRecDepth 20000 in
theorem ggX8_storm_X2_letsIn : GoodIn wsX8_storm wsX2_letsIn := goodIn_r _ [20, 10, 21, 63, 64, 65, 66, 67, 68, 69] (by decide +kernel) (by decide +kernel)
set_option maxRecDepth 20000 in
theorem gX8_storm_X2_letsIn : GoodIn wsX8_storm (wsV RX8 103 RX2 yX2_letsIn wsX2_letsIn) := goodIn_app (goodIn_of _ (by decide +kernel)) ggX8_storm_X2_letsIn
set_option maxRecDepth 20000 in
theorem ggX8_storm_X1_tearOut : GoodIn wsX8_storm wsX1_tearOut := goodIn_r _ [38, 27, 28, 39, 76, 77] (by decide +kernel) (by decide +kernel)
set_option maxRecDepth 20000 in
theorem gX8_storm_X1_tearOut : GoodIn wsX8_storm (wsV RX8 197 RX1 yX1_tearOut wsX1_tearOut) := goodIn_app (goodIn_of _ (by decide +kernel)) ggX8_storm_X1_tearOut
set_option maxRecDepth 20000 in
theorem ggX8_storm_X1_upTo : GoodIn wsX8_storm wsX1_upTo := goodIn_r _ [43, 27, 76, 77] (by decide +kernel) (by decide +kernel)
set_option maxRecDepth 20000 in
theorem gX8_storm_X1_upTo : GoodIn wsX8_storm (wsV RX8 200 RX1 yX1_upTo wsX1_upTo) := goodIn_app (goodIn_of _ (by decide +kernel)) ggX8_storm_X1_upTo
set_option maxRecDepth 20000 in
theorem ggX8_storm_X1_all : GoodIn wsX8_storm wsX1_all := goodIn_r _ [47, 28, 76, 77] (by decide +kernel) (by decide +kernel)
set_option maxRecDepth 20000 in
theorem gX8_storm_X1_all : GoodIn wsX8_storm (wsV RX8 204 RX1 yX1_all wsX1_all) := goodIn_app (goodIn_of _ (by decide +kernel)) ggX8_storm_X1_all
set_option maxRecDepth 20000 in
theorem ggX8_storm_X8_leastTerms : GoodIn wsX8_storm wsX8_leastTerms := goodIn_r _ [51, 52, 53, 50, 54] (by decide +kernel) (by decide +kernel)
set_option maxRecDepth 20000 in
theorem gX8_storm_X8_leastTerms : GoodIn wsX8_storm (va_wsS RX8 208 yX8_leastTerms wsX8_leastTerms) := goodIn_app (goodIn_of _ (by decide +kernel)) ggX8_storm_X8_leastTerms
theorem dX8_storm_0 : decode cX8_storm 0 = .ok (.iload_n 1, 1) := by decide +kernel
theorem dX8_storm_1 : decode cX8_storm 1 = .ok (.ifCond .lt 19, 3) := by decide +kernel
theorem dX8_storm_4 : decode cX8_storm 4 = .ok (.iload_n 1, 1) := by decide +kernel
theorem dX8_storm_5 : decode cX8_storm 5 = .ok (.bipush 10, 2) := by decide +kernel
theorem dX8_storm_7 : decode cX8_storm 7 = .ok (.if_icmp .gt 13, 3) := by decide +kernel
theorem dX8_storm_10 : decode cX8_storm 10 = .ok (.iload_n 2, 1) := by decide +kernel
theorem dX8_storm_11 : decode cX8_storm 11 = .ok (.ifCond .lt 9, 3) := by decide +kernel
theorem dX8_storm_14 : decode cX8_storm 14 = .ok (.iload_n 2, 1) := by decide +kernel
theorem dX8_storm_15 : decode cX8_storm 15 = .ok (.bipush 99, 2) := by decide +kernel
theorem dX8_storm_17 : decode cX8_storm 17 = .ok (.if_icmp .le 7, 3) := by decide +kernel
theorem dX8_storm_20 : decode cX8_storm 20 = .ok (.ldc2_w 191, 3) := by decide +kernel
theorem dX8_storm_23 : decode cX8_storm 23 = .ok (.lreturn, 1) := by decide +kernel
theorem dX8_storm_24 : decode cX8_storm 24 = .ok (.aload_n 0, 1) := by decide +kernel
theorem dX8_storm_25 : decode cX8_storm 25 = .ok (.getfield 50, 3) := by decide +kernel
theorem dX8_storm_28 : decode cX8_storm 28 = .ok (.aload_n 0, 1) := by decide +kernel
theorem dX8_storm_29 : decode cX8_storm 29 = .ok (.getfield 19, 3) := by decide +kernel
theorem dX8_storm_32 : decode cX8_storm 32 = .ok (.aload_n 0, 1) := by decide +kernel
theorem dX8_storm_33 : decode cX8_storm 33 = .ok (.getfield 26, 3) := by decide +kernel
theorem dX8_storm_36 : decode cX8_storm 36 = .ok (.invokevirtual 159, 3) := by decide +kernel
theorem dX8_storm_39 : decode cX8_storm 39 = .ok (.invokevirtual 193, 3) := by decide +kernel
theorem dX8_storm_42 : decode cX8_storm 42 = .ok (.iconst 0, 1) := by decide +kernel
theorem dX8_storm_43 : decode cX8_storm 43 = .ok (.istore 4, 2) := by decide +kernel
theorem dX8_storm_45 : decode cX8_storm 45 = .ok (.iload 4, 2) := by decide +kernel
theorem dX8_storm_47 : decode cX8_storm 47 = .ok (.aload_n 0, 1) := by decide +kernel
theorem dX8_storm_48 : decode cX8_storm 48 = .ok (.getfield 19, 3) := by decide +kernel
theorem dX8_storm_51 : decode cX8_storm 51 = .ok (.invokevirtual 93, 3) := by decide +kernel
theorem dX8_storm_54 : decode cX8_storm 54 = .ok (.if_icmp .ge 38, 3) := by decide +kernel
theorem dX8_storm_57 : decode cX8_storm 57 = .ok (.aload_n 0, 1) := by decide +kernel
theorem dX8_storm_58 : decode cX8_storm 58 = .ok (.getfield 26, 3) := by decide +kernel
theorem dX8_storm_61 : decode cX8_storm 61 = .ok (.iload 4, 2) := by decide +kernel
theorem dX8_storm_63 : decode cX8_storm 63 = .ok (.invokevirtual 169, 3) := by decide +kernel
theorem dX8_storm_66 : decode cX8_storm 66 = .ok (.ifCond .ne 20, 3) := by decide +kernel
theorem dX8_storm_69 : decode cX8_storm 69 = .ok (.aload_n 0, 1) := by decide +kernel
theorem dX8_storm_70 : decode cX8_storm 70 = .ok (.getfield 50, 3) := by decide +kernel
theorem dX8_storm_73 : decode cX8_storm 73 = .ok (.aload_n 0, 1) := by decide +kernel
theorem dX8_storm_74 : decode cX8_storm 74 = .ok (.getfield 19, 3) := by decide +kernel
theorem dX8_storm_77 : decode cX8_storm 77 = .ok (.iload 4, 2) := by decide +kernel
theorem dX8_storm_79 : decode cX8_storm 79 = .ok (.invokevirtual 103, 3) := by decide +kernel
theorem dX8_storm_82 : decode cX8_storm 82 = .ok (.iload_n 1, 1) := by decide +kernel
theorem dX8_storm_83 : decode cX8_storm 83 = .ok (.invokevirtual 197, 3) := by decide +kernel
theorem dX8_storm_86 : decode cX8_storm 86 = .ok (.iinc 4 1, 3) := by decide +kernel
theorem dX8_storm_89 : decode cX8_storm 89 = .ok (.goto (-44), 3) := by decide +kernel
theorem dX8_storm_92 : decode cX8_storm 92 = .ok (.aload_n 0, 1) := by decide +kernel
theorem dX8_storm_93 : decode cX8_storm 93 = .ok (.getfield 50, 3) := by decide +kernel
theorem dX8_storm_96 : decode cX8_storm 96 = .ok (.iload_n 2, 1) := by decide +kernel
theorem dX8_storm_97 : decode cX8_storm 97 = .ok (.invokevirtual 200, 3) := by decide +kernel
theorem dX8_storm_100 : decode cX8_storm 100 = .ok (.aload_n 0, 1) := by decide +kernel
theorem dX8_storm_101 : decode cX8_storm 101 = .ok (.getfield 50, 3) := by decide +kernel
theorem dX8_storm_104 : decode cX8_storm 104 = .ok (.invokevirtual 204, 3) := by decide +kernel
theorem dX8_storm_107 : decode cX8_storm 107 = .ok (.iload_n 3, 1) := by decide +kernel
theorem dX8_storm_108 : decode cX8_storm 108 = .ok (.invokestatic 208, 3) := by decide +kernel
theorem dX8_storm_111 : decode cX8_storm 111 = .ok (.lreturn, 1) := by decide +kernel
set_option maxRecDepth 20000 in
theorem ggX8_share_X2_places : GoodIn wsX8_share wsX2_places := goodIn_r _ [7, 8, 40, 41, 42, 43, 44, 45, 46] (by decide +kernel) (by decide +kernel)
set_option maxRecDepth 20000 in
theorem gX8_share_X2_places : GoodIn wsX8_share (wsV RX8 93 RX2 yX2_places wsX2_places) := goodIn_app (goodIn_of _ (by decide +kernel)) ggX8_share_X2_places
set_option maxRecDepth 20000 in
theorem ggX8_share_X3_timberIn : GoodIn wsX8_share wsX3_timberIn := goodIn_r _ [13, 14, 47, 48, 49, 50, 51, 52] (by decide +kernel) (by decide +kernel)
set_option maxRecDepth 20000 in
theorem gX8_share_X3_timberIn : GoodIn wsX8_share (wsV RX8 109 RX3 yX3_timberIn wsX3_timberIn) := goodIn_app (goodIn_of _ (by decide +kernel)) ggX8_share_X3_timberIn
set_option maxRecDepth 20000 in
theorem ggX8_share_X3_lengthOf : GoodIn wsX8_share wsX3_lengthOf := goodIn_r _ [18, 19, 47, 48, 49, 50, 51, 52] (by decide +kernel) (by decide +kernel)
set_option maxRecDepth 20000 in
theorem gX8_share_X3_lengthOf : GoodIn wsX8_share (wsV RX8 115 RX3 yX3_lengthOf wsX3_lengthOf) := goodIn_app (goodIn_of _ (by decide +kernel)) ggX8_share_X3_lengthOf
set_option maxRecDepth 20000 in
theorem ggX8_share_X2_shipOf : GoodIn wsX8_share wsX2_shipOf := goodIn_r _ [23, 8, 24, 40, 41, 42, 43, 44, 45, 46] (by decide +kernel) (by decide +kernel)
set_option maxRecDepth 20000 in
theorem gX8_share_X2_shipOf : GoodIn wsX8_share (wsV RX8 116 RX2 yX2_shipOf wsX2_shipOf) := goodIn_app (goodIn_of _ (by decide +kernel)) ggX8_share_X2_shipOf
set_option maxRecDepth 20000 in
theorem ggX8_share_X8_leastTerms : GoodIn wsX8_share wsX8_leastTerms := goodIn_r _ [28, 29, 30, 27, 31] (by decide +kernel) (by decide +kernel)
set_option maxRecDepth 20000 in
theorem gX8_share_X8_leastTerms : GoodIn wsX8_share (va_wsS RX8 208 yX8_leastTerms wsX8_leastTerms) := goodIn_app (goodIn_of _ (by decide +kernel)) ggX8_share_X8_leastTerms
theorem dX8_share_0 : decode cX8_share 0 = .ok (.iload_n 1, 1) := by decide +kernel
theorem dX8_share_1 : decode cX8_share 1 = .ok (.ifCond .lt 8, 3) := by decide +kernel
theorem dX8_share_4 : decode cX8_share 4 = .ok (.iload_n 1, 1) := by decide +kernel
theorem dX8_share_5 : decode cX8_share 5 = .ok (.iconst 3, 1) := by decide +kernel
theorem dX8_share_6 : decode cX8_share 6 = .ok (.if_icmp .lt 5, 3) := by decide +kernel
