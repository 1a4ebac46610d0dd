theorem dX7_init_0 : decode cX7_init 0 = .ok (.aload_n 0, 1) := by decide +kernel
theorem dX7_init_1 : decode cX7_init 1 = .ok (.invokespecial 3, 3) := by decide +kernel
theorem dX7_init_4 : decode cX7_init 4 = .ok (.aload_n 0, 1) := by decide +kernel
theorem dX7_init_5 : decode cX7_init 5 = .ok (.bipush 72, 2) := by decide +kernel
theorem dX7_init_7 : decode cX7_init 7 = .ok (.newarray .byte, 2) := by decide +kernel
theorem dX7_init_9 : decode cX7_init 9 = .ok (.putfield 9, 3) := by decide +kernel
theorem dX7_init_12 : decode cX7_init 12 = .ok (.aload_n 0, 1) := by decide +kernel
theorem dX7_init_13 : decode cX7_init 13 = .ok (.iconst 0, 1) := by decide +kernel
theorem dX7_init_14 : decode cX7_init 14 = .ok (.putfield 15, 3) := by decide +kernel
theorem dX7_init_17 : decode cX7_init 17 = .ok (.return_, 1) := by decide +kernel
theorem dX7_size_0 : decode cX7_size 0 = .ok (.aload_n 0, 1) := by decide +kernel
theorem dX7_size_1 : decode cX7_size 1 = .ok (.getfield 15, 3) := by decide +kernel
theorem dX7_size_4 : decode cX7_size 4 = .ok (.ireturn, 1) := by decide +kernel
theorem dX7_hasRoomFor_0 : decode cX7_hasRoomFor 0 = .ok (.aload_n 0, 1) := by decide +kernel
theorem dX7_hasRoomFor_1 : decode cX7_hasRoomFor 1 = .ok (.getfield 15, 3) := by decide +kernel
theorem dX7_hasRoomFor_4 : decode cX7_hasRoomFor 4 = .ok (.iload_n 1, 1) := by decide +kernel
theorem dX7_hasRoomFor_5 : decode cX7_hasRoomFor 5 = .ok (.iadd, 1) := by decide +kernel
theorem dX7_hasRoomFor_6 : decode cX7_hasRoomFor 6 = .ok (.aload_n 0, 1) := by decide +kernel
theorem dX7_hasRoomFor_7 : decode cX7_hasRoomFor 7 = .ok (.getfield 9, 3) := by decide +kernel
theorem dX7_hasRoomFor_10 : decode cX7_hasRoomFor 10 = .ok (.arraylength, 1) := by decide +kernel
theorem dX7_hasRoomFor_11 : decode cX7_hasRoomFor 11 = .ok (.if_icmp .gt 7, 3) := by decide +kernel
theorem dX7_hasRoomFor_14 : decode cX7_hasRoomFor 14 = .ok (.iconst 1, 1) := by decide +kernel
theorem dX7_hasRoomFor_15 : decode cX7_hasRoomFor 15 = .ok (.goto 4, 3) := by decide +kernel
theorem dX7_hasRoomFor_18 : decode cX7_hasRoomFor 18 = .ok (.iconst 0, 1) := by decide +kernel
theorem dX7_hasRoomFor_19 : decode cX7_hasRoomFor 19 = .ok (.ireturn, 1) := by decide +kernel
theorem dX7_append_0 : decode cX7_append 0 = .ok (.iload_n 1, 1) := by decide +kernel
theorem dX7_append_1 : decode cX7_append 1 = .ok (.iconst 1, 1) := by decide +kernel
theorem dX7_append_2 : decode cX7_append 2 = .ok (.isub, 1) := by decide +kernel
theorem dX7_append_3 : decode cX7_append 3 = .ok (.istore 4, 2) := by decide +kernel
theorem dX7_append_5 : decode cX7_append 5 = .ok (.iload 4, 2) := by decide +kernel
theorem dX7_append_7 : decode cX7_append 7 = .ok (.ifCond .lt 49, 3) := by decide +kernel
theorem dX7_append_10 : decode cX7_append 10 = .ok (.aload_n 0, 1) := by decide +kernel
theorem dX7_append_11 : decode cX7_append 11 = .ok (.getfield 15, 3) := by decide +kernel
theorem dX7_append_14 : decode cX7_append 14 = .ok (.aload_n 0, 1) := by decide +kernel
theorem dX7_append_15 : decode cX7_append 15 = .ok (.getfield 9, 3) := by decide +kernel
theorem dX7_append_18 : decode cX7_append 18 = .ok (.arraylength, 1) := by decide +kernel
theorem dX7_append_19 : decode cX7_append 19 = .ok (.if_icmp .ge 37, 3) := by decide +kernel
theorem dX7_append_22 : decode cX7_append 22 = .ok (.aload_n 0, 1) := by decide +kernel
theorem dX7_append_23 : decode cX7_append 23 = .ok (.getfield 9, 3) := by decide +kernel
theorem dX7_append_26 : decode cX7_append 26 = .ok (.aload_n 0, 1) := by decide +kernel
theorem dX7_append_27 : decode cX7_append 27 = .ok (.getfield 15, 3) := by decide +kernel
theorem dX7_append_30 : decode cX7_append 30 = .ok (.lload_n 2, 1) := by decide +kernel
theorem dX7_append_31 : decode cX7_append 31 = .ok (.bipush 8, 2) := by decide +kernel
theorem dX7_append_33 : decode cX7_append 33 = .ok (.iload 4, 2) := by decide +kernel
theorem dX7_append_35 : decode cX7_append 35 = .ok (.imul, 1) := by decide +kernel
theorem dX7_append_36 : decode cX7_append 36 = .ok (.lshr, 1) := by decide +kernel
theorem dX7_append_37 : decode cX7_append 37 = .ok (.l2i, 1) := by decide +kernel
theorem dX7_append_38 : decode cX7_append 38 = .ok (.i2b, 1) := by decide +kernel
theorem dX7_append_39 : decode cX7_append 39 = .ok (.bastore, 1) := by decide +kernel
theorem dX7_append_40 : decode cX7_append 40 = .ok (.aload_n 0, 1) := by decide +kernel
theorem dX7_append_41 : decode cX7_append 41 = .ok (.dup, 1) := by decide +kernel
theorem dX7_append_42 : decode cX7_append 42 = .ok (.getfield 15, 3) := by decide +kernel
theorem dX7_append_45 : decode cX7_append 45 = .ok (.iconst 1, 1) := by decide +kernel
theorem dX7_append_46 : decode cX7_append 46 = .ok (.iadd, 1) := by decide +kernel
theorem dX7_append_47 : decode cX7_append 47 = .ok (.putfield 15, 3) := by decide +kernel
theorem dX7_append_50 : decode cX7_append 50 = .ok (.iinc 4 (-1), 3) := by decide +kernel
theorem dX7_append_53 : decode cX7_append 53 = .ok (.goto (-48), 3) := by decide +kernel
theorem dX7_append_56 : decode cX7_append 56 = .ok (.return_, 1) := by decide +kernel
theorem dX7_clear_0 : decode cX7_clear 0 = .ok (.aload_n 0, 1) := by decide +kernel
theorem dX7_clear_1 : decode cX7_clear 1 = .ok (.iconst 0, 1) := by decide +kernel
theorem dX7_clear_2 : decode cX7_clear 2 = .ok (.putfield 15, 3) := by decide +kernel
theorem dX7_clear_5 : decode cX7_clear 5 = .ok (.return_, 1) := by decide +kernel
theorem dX7_byteAt_0 : decode cX7_byteAt 0 = .ok (.iload_n 1, 1) := by decide +kernel
theorem dX7_byteAt_1 : decode cX7_byteAt 1 = .ok (.ifCond .lt 33, 3) := by decide +kernel
theorem dX7_byteAt_4 : decode cX7_byteAt 4 = .ok (.iload_n 1, 1) := by decide +kernel
theorem dX7_byteAt_5 : decode cX7_byteAt 5 = .ok (.aload_n 0, 1) := by decide +kernel
theorem dX7_byteAt_6 : decode cX7_byteAt 6 = .ok (.getfield 15, 3) := by decide +kernel
theorem dX7_byteAt_9 : decode cX7_byteAt 9 = .ok (.if_icmp .ge 25, 3) := by decide +kernel
theorem dX7_byteAt_12 : decode cX7_byteAt 12 = .ok (.iload_n 1, 1) := by decide +kernel
theorem dX7_byteAt_13 : decode cX7_byteAt 13 = .ok (.aload_n 0, 1) := by decide +kernel
theorem dX7_byteAt_14 : decode cX7_byteAt 14 = .ok (.getfield 9, 3) := by decide +kernel
theorem dX7_byteAt_17 : decode cX7_byteAt 17 = .ok (.arraylength, 1) := by decide +kernel
theorem dX7_byteAt_18 : decode cX7_byteAt 18 = .ok (.if_icmp .ge 16, 3) := by decide +kernel
theorem dX7_byteAt_21 : decode cX7_byteAt 21 = .ok (.aload_n 0, 1) := by decide +kernel
theorem dX7_byteAt_22 : decode cX7_byteAt 22 = .ok (.getfield 9, 3) := by decide +kernel
theorem dX7_byteAt_25 : decode cX7_byteAt 25 = .ok (.iload_n 1, 1) := by decide +kernel
theorem dX7_byteAt_26 : decode cX7_byteAt 26 = .ok (.baload, 1) := by decide +kernel
theorem dX7_byteAt_27 : decode cX7_byteAt 27 = .ok (.sipush 255, 3) := by decide +kernel
theorem dX7_byteAt_30 : decode cX7_byteAt 30 = .ok (.iand, 1) := by decide +kernel
theorem dX7_byteAt_31 : decode cX7_byteAt 31 = .ok (.goto 4, 3) := by decide +kernel
theorem dX7_byteAt_34 : decode cX7_byteAt 34 = .ok (.iconst (-1), 1) := by decide +kernel
theorem dX7_byteAt_35 : decode cX7_byteAt 35 = .ok (.ireturn, 1) := by decide +kernel
set_option maxRecDepth 20000 in
theorem ggX7_figureAt_X7_byteAt : GoodIn wsX7_figureAt wsX7_byteAt := goodIn_r _ [5, 6, 7, 8, 9] (by decide +kernel) (by decide +kernel)
set_option maxRecDepth 20000 in
theorem gX7_figureAt_X7_byteAt : GoodIn wsX7_figureAt (wsV RX7 19 RX7 yX7_byteAt wsX7_byteAt) := goodIn_app (goodIn_of _ (by decide +kernel)) ggX7_figureAt_X7_byteAt
theorem dX7_figureAt_0 : decode cX7_figureAt 0 = .ok (.aload_n 0, 1) := by decide +kernel
theorem dX7_figureAt_1 : decode cX7_figureAt 1 = .ok (.iload_n 1, 1) := by decide +kernel
theorem dX7_figureAt_2 : decode cX7_figureAt 2 = .ok (.invokevirtual 19, 3) := by decide +kernel
theorem dX7_figureAt_5 : decode cX7_figureAt 5 = .ok (.bipush 48, 2) := by decide +kernel
theorem dX7_figureAt_7 : decode cX7_figureAt 7 = .ok (.isub, 1) := by decide +kernel
theorem dX7_figureAt_8 : decode cX7_figureAt 8 = .ok (.ireturn, 1) := by decide +kernel
set_option maxRecDepth 20000 in
theorem ggX7_isFilledPlace_X7_byteAt : GoodIn wsX7_isFilledPlace wsX7_byteAt := goodIn_r _ [5, 6, 7, 8, 9] (by decide +kernel) (by decide +kernel)
set_option maxRecDepth 20000 in
theorem gX7_isFilledPlace_X7_byteAt : GoodIn wsX7_isFilledPlace (wsV RX7 19 RX7 yX7_byteAt wsX7_byteAt) := goodIn_app (goodIn_of _ (by decide +kernel)) ggX7_isFilledPlace_X7_byteAt
theorem dX7_isFilledPlace_0 : decode cX7_isFilledPlace 0 = .ok (.aload_n 0, 1) := by decide +kernel
theorem dX7_isFilledPlace_1 : decode cX7_isFilledPlace 1 = .ok (.iload_n 1, 1) := by decide +kernel
theorem dX7_isFilledPlace_2 : decode cX7_isFilledPlace 2 = .ok (.invokevirtual 19, 3) := by decide +kernel
theorem dX7_isFilledPlace_5 : decode cX7_isFilledPlace 5 = .ok (.bipush 80, 2) := by decide +kernel
theorem dX7_isFilledPlace_7 : decode cX7_isFilledPlace 7 = .ok (.if_icmp .ne 7, 3) := by decide +kernel
theorem dX7_isFilledPlace_10 : decode cX7_isFilledPlace 10 = .ok (.iconst 1, 1) := by decide +kernel
theorem dX7_isFilledPlace_11 : decode cX7_isFilledPlace 11 = .ok (.goto 4, 3) := by decide +kernel
theorem dX7_isFilledPlace_14 : decode cX7_isFilledPlace 14 = .ok (.iconst 0, 1) := by decide +kernel
theorem dX7_isFilledPlace_15 : decode cX7_isFilledPlace 15 = .ok (.ireturn, 1) := by decide +kernel
set_option maxRecDepth 20000 in
theorem ggX7_bytesOfPlace_X7_isFilledPlace : GoodIn wsX7_bytesOfPlace wsX7_isFilledPlace := goodIn_r _ [5, 6, 7, 8, 4, 9, 10, 11, 12, 13] (by decide +kernel) (by decide +kernel)
set_option maxRecDepth 20000 in
theorem gX7_bytesOfPlace_X7_isFilledPlace : GoodIn wsX7_bytesOfPlace (wsV RX7 23 RX7 yX7_isFilledPlace wsX7_isFilledPlace) := goodIn_app (goodIn_of _ (by decide +kernel)) ggX7_bytesOfPlace_X7_isFilledPlace
theorem dX7_bytesOfPlace_0 : decode cX7_bytesOfPlace 0 = .ok (.aload_n 0, 1) := by decide +kernel
theorem dX7_bytesOfPlace_1 : decode cX7_bytesOfPlace 1 = .ok (.iload_n 1, 1) := by decide +kernel
theorem dX7_bytesOfPlace_2 : decode cX7_bytesOfPlace 2 = .ok (.invokevirtual 23, 3) := by decide +kernel
theorem dX7_bytesOfPlace_5 : decode cX7_bytesOfPlace 5 = .ok (.ifCond .eq 8, 3) := by decide +kernel
theorem dX7_bytesOfPlace_8 : decode cX7_bytesOfPlace 8 = .ok (.bipush 6, 2) := by decide +kernel
theorem dX7_bytesOfPlace_10 : decode cX7_bytesOfPlace 10 = .ok (.goto 4, 3) := by decide +kernel
theorem dX7_bytesOfPlace_13 : decode cX7_bytesOfPlace 13 = .ok (.iconst 4, 1) := by decide +kernel
theorem dX7_bytesOfPlace_14 : decode cX7_bytesOfPlace 14 = .ok (.ireturn, 1) := by decide +kernel
set_option maxRecDepth 20000 in
theorem ggX7_firstFault_X7_faultInHead : GoodIn wsX7_firstFault wsX7_faultInHead := goodIn_r _ [6, 7, 8, 9, 5, 10, 1, 11, 12, 13, 14, 15, 16, 17, 18, 19, 36, 37] (by decide +kernel) (by decide +kernel)
set_option maxRecDepth 20000 in
theorem gX7_firstFault_X7_faultInHead : GoodIn wsX7_firstFault (wsV RX7 27 RX7 yX7_faultInHead wsX7_faultInHead) := goodIn_app (goodIn_of _ (by decide +kernel)) ggX7_firstFault_X7_faultInHead
set_option maxRecDepth 20000 in
theorem ggX7_firstFault_X7_faultInPlace : GoodIn wsX7_firstFault wsX7_faultInPlace := goodIn_r _ [23, 24, 25, 26, 5, 27, 7, 8, 9, 10, 1, 11, 12, 13, 14, 15, 16, 17, 18, 19, 28, 29, 30, 31, 36, 37] (by decide +kernel) (by decide +kernel)
set_option maxRecDepth 20000 in
theorem gX7_firstFault_X7_faultInPlace : GoodIn wsX7_firstFault (wsV RX7 31 RX7 yX7_faultInPlace wsX7_faultInPlace) := goodIn_app (goodIn_of _ (by decide +kernel)) ggX7_firstFault_X7_faultInPlace
set_option maxRecDepth 20000 in
theorem ggX7_firstFault_X7_bytesOfPlace : GoodIn wsX7_firstFault wsX7_bytesOfPlace := goodIn_r _ [35, 24, 25, 26, 5, 27, 7, 8, 9, 10, 1, 11, 36, 37] (by decide +kernel) (by decide +kernel)
set_option maxRecDepth 20000 in
theorem gX7_firstFault_X7_bytesOfPlace : GoodIn wsX7_firstFault (wsV RX7 35 RX7 yX7_bytesOfPlace wsX7_bytesOfPlace) := goodIn_app (goodIn_of _ (by decide +kernel)) ggX7_firstFault_X7_bytesOfPlace
theorem dX7_firstFault_0 : decode cX7_firstFault 0 = .ok (.aload_n 0, 1) := by decide +kernel
theorem dX7_firstFault_1 : decode cX7_firstFault 1 = .ok (.invokevirtual 27, 3) := by decide +kernel
theorem dX7_firstFault_4 : decode cX7_firstFault 4 = .ok (.istore_n 1, 1) := by decide +kernel
theorem dX7_firstFault_5 : decode cX7_firstFault 5 = .ok (.iload_n 1, 1) := by decide +kernel
theorem dX7_firstFault_6 : decode cX7_firstFault 6 = .ok (.bipush (-9), 2) := by decide +kernel
theorem dX7_firstFault_8 : decode cX7_firstFault 8 = .ok (.if_icmp .eq 5, 3) := by decide +kernel
theorem dX7_firstFault_11 : decode cX7_firstFault 11 = .ok (.iload_n 1, 1) := by decide +kernel
theorem dX7_firstFault_12 : decode cX7_firstFault 12 = .ok (.ireturn, 1) := by decide +kernel
theorem dX7_firstFault_13 : decode cX7_firstFault 13 = .ok (.iconst 4, 1) := by decide +kernel
theorem dX7_firstFault_14 : decode cX7_firstFault 14 = .ok (.istore_n 2, 1) := by decide +kernel
theorem dX7_firstFault_15 : decode cX7_firstFault 15 = .ok (.iconst 0, 1) := by decide +kernel
theorem dX7_firstFault_16 : decode cX7_firstFault 16 = .ok (.istore_n 3, 1) := by decide +kernel
theorem dX7_firstFault_17 : decode cX7_firstFault 17 = .ok (.iload_n 3, 1) := by decide +kernel
theorem dX7_firstFault_18 : decode cX7_firstFault 18 = .ok (.bipush 10, 2) := by decide +kernel
theorem dX7_firstFault_20 : decode cX7_firstFault 20 = .ok (.if_icmp .ge 43, 3) := by decide +kernel
theorem dX7_firstFault_23 : decode cX7_firstFault 23 = .ok (.iload_n 2, 1) := by decide +kernel
theorem dX7_firstFault_24 : decode cX7_firstFault 24 = .ok (.aload_n 0, 1) := by decide +kernel
theorem dX7_firstFault_25 : decode cX7_firstFault 25 = .ok (.getfield 15, 3) := by decide +kernel
theorem dX7_firstFault_28 : decode cX7_firstFault 28 = .ok (.if_icmp .ge 35, 3) := by decide +kernel
theorem dX7_firstFault_31 : decode cX7_firstFault 31 = .ok (.aload_n 0, 1) := by decide +kernel
theorem dX7_firstFault_32 : decode cX7_firstFault 32 = .ok (.iload_n 2, 1) := by decide +kernel
theorem dX7_firstFault_33 : decode cX7_firstFault 33 = .ok (.iload_n 3, 1) := by decide +kernel
theorem dX7_firstFault_34 : decode cX7_firstFault 34 = .ok (.invokevirtual 31, 3) := by decide +kernel
theorem dX7_firstFault_37 : decode cX7_firstFault 37 = .ok (.istore 4, 2) := by decide +kernel
theorem dX7_firstFault_39 : decode cX7_firstFault 39 = .ok (.iload 4, 2) := by decide +kernel
theorem dX7_firstFault_41 : decode cX7_firstFault 41 = .ok (.bipush (-9), 2) := by decide +kernel
theorem dX7_firstFault_43 : decode cX7_firstFault 43 = .ok (.if_icmp .eq 6, 3) := by decide +kernel
theorem dX7_firstFault_46 : decode cX7_firstFault 46 = .ok (.iload 4, 2) := by decide +kernel
theorem dX7_firstFault_48 : decode cX7_firstFault 48 = .ok (.ireturn, 1) := by decide +kernel
theorem dX7_firstFault_49 : decode cX7_firstFault 49 = .ok (.iload_n 2, 1) := by decide +kernel
theorem dX7_firstFault_50 : decode cX7_firstFault 50 = .ok (.aload_n 0, 1) := by decide +kernel
theorem dX7_firstFault_51 : decode cX7_firstFault 51 = .ok (.iload_n 2, 1) := by decide +kernel
theorem dX7_firstFault_52 : decode cX7_firstFault 52 = .ok (.invokevirtual 35, 3) := by decide +kernel
theorem dX7_firstFault_55 : decode cX7_firstFault 55 = .ok (.iadd, 1) := by decide +kernel
theorem dX7_firstFault_56 : decode cX7_firstFault 56 = .ok (.istore_n 2, 1) := by decide +kernel
theorem dX7_firstFault_57 : decode cX7_firstFault 57 = .ok (.iinc 3 1, 3) := by decide +kernel
theorem dX7_firstFault_60 : decode cX7_firstFault 60 = .ok (.goto (-43), 3) := by decide +kernel
theorem dX7_firstFault_63 : decode cX7_firstFault 63 = .ok (.iload_n 2, 1) := by decide +kernel
theorem dX7_firstFault_64 : decode cX7_firstFault 64 = .ok (.aload_n 0, 1) := by decide +kernel
theorem dX7_firstFault_65 : decode cX7_firstFault 65 = .ok (.getfield 15, 3) := by decide +kernel
theorem dX7_firstFault_68 : decode cX7_firstFault 68 = .ok (.if_icmp .ge 7, 3) := by decide +kernel
theorem dX7_firstFault_71 : decode cX7_firstFault 71 = .ok (.iload_n 2, 1) := by decide +kernel
theorem dX7_firstFault_72 : decode cX7_firstFault 72 = .ok (.goto 5, 3) := by decide +kernel
theorem dX7_firstFault_75 : decode cX7_firstFault 75 = .ok (.bipush (-9), 2) := by decide +kernel
theorem dX7_firstFault_77 : decode cX7_firstFault 77 = .ok (.ireturn, 1) := by decide +kernel
set_option maxRecDepth 20000 in
theorem ggX7_faultInHead_X7_byteAt : GoodIn wsX7_faultInHead wsX7_byteAt := goodIn_r _ [5, 6, 7, 16, 17] (by decide +kernel) (by decide +kernel)
set_option maxRecDepth 20000 in
theorem gX7_faultInHead_X7_byteAt : GoodIn wsX7_faultInHead (wsV RX7 19 RX7 yX7_byteAt wsX7_byteAt) := goodIn_app (goodIn_of _ (by decide +kernel)) ggX7_faultInHead_X7_byteAt
set_option maxRecDepth 20000 in
theorem ggX7_faultInHead_X7_isFigure : GoodIn wsX7_faultInHead wsX7_isFigure := goodIn_r _ [11, 12, 13, 14, 4, 15, 1, 2, 3, 5, 6, 7, 16, 17] (by decide +kernel) (by decide +kernel)
set_option maxRecDepth 20000 in
theorem gX7_faultInHead_X7_isFigure : GoodIn wsX7_faultInHead (wsV RX7 38 RX7 yX7_isFigure wsX7_isFigure) := goodIn_app (goodIn_of _ (by decide +kernel)) ggX7_faultInHead_X7_isFigure
set_option maxRecDepth 20000 in
theorem ggX7_faultInHead_X7_figureAt : GoodIn wsX7_faultInHead wsX7_figureAt := goodIn_r _ [15, 1, 2, 3, 4, 5, 6, 7, 16, 17] (by decide +kernel) (by decide +kernel)
set_option maxRecDepth 20000 in
theorem gX7_faultInHead_X7_figureAt : GoodIn wsX7_faultInHead (wsV RX7 42 RX7 yX7_figureAt wsX7_figureAt) := goodIn_app (goodIn_of _ (by decide +kernel)) ggX7_faultInHead_X7_figureAt
theorem dX7_faultInHead_0 : decode cX7_faultInHead 0 = .ok (.aload_n 0, 1) := by decide +kernel
theorem dX7_faultInHead_1 : decode cX7_faultInHead 1 = .ok (.iconst 0, 1) := by decide +kernel
theorem dX7_faultInHead_2 : decode cX7_faultInHead 2 = .ok (.invokevirtual 19, 3) := by decide +kernel
theorem dX7_faultInHead_5 : decode cX7_faultInHead 5 = .ok (.bipush 83, 2) := by decide +kernel
theorem dX7_faultInHead_7 : decode cX7_faultInHead 7 = .ok (.if_icmp .eq 5, 3) := by decide +kernel
theorem dX7_faultInHead_10 : decode cX7_faultInHead 10 = .ok (.iconst 0, 1) := by decide +kernel
theorem dX7_faultInHead_11 : decode cX7_faultInHead 11 = .ok (.ireturn, 1) := by decide +kernel
theorem dX7_faultInHead_12 : decode cX7_faultInHead 12 = .ok (.aload_n 0, 1) := by decide +kernel
theorem dX7_faultInHead_13 : decode cX7_faultInHead 13 = .ok (.iconst 1, 1) := by decide +kernel
theorem dX7_faultInHead_14 : decode cX7_faultInHead 14 = .ok (.iconst 0, 1) := by decide +kernel
theorem dX7_faultInHead_15 : decode cX7_faultInHead 15 = .ok (.bipush 9, 2) := by decide +kernel
theorem dX7_faultInHead_17 : decode cX7_faultInHead 17 = .ok (.invokevirtual 38, 3) := by decide +kernel
theorem dX7_faultInHead_20 : decode cX7_faultInHead 20 = .ok (.ifCond .ne 5, 3) := by decide +kernel
theorem dX7_faultInHead_23 : decode cX7_faultInHead 23 = .ok (.iconst 1, 1) := by decide +kernel
theorem dX7_faultInHead_24 : decode cX7_faultInHead 24 = .ok (.ireturn, 1) := by decide +kernel
theorem dX7_faultInHead_25 : decode cX7_faultInHead 25 = .ok (.aload_n 0, 1) := by decide +kernel
theorem dX7_faultInHead_26 : decode cX7_faultInHead 26 = .ok (.iconst 2, 1) := by decide +kernel
theorem dX7_faultInHead_27 : decode cX7_faultInHead 27 = .ok (.iconst 0, 1) := by decide +kernel
theorem dX7_faultInHead_28 : decode cX7_faultInHead 28 = .ok (.bipush 9, 2) := by decide +kernel
theorem dX7_faultInHead_30 : decode cX7_faultInHead 30 = .ok (.invokevirtual 38, 3) := by decide +kernel
theorem dX7_faultInHead_33 : decode cX7_faultInHead 33 = .ok (.ifCond .ne 5, 3) := by decide +kernel
theorem dX7_faultInHead_36 : decode cX7_faultInHead 36 = .ok (.iconst 2, 1) := by decide +kernel
theorem dX7_faultInHead_37 : decode cX7_faultInHead 37 = .ok (.ireturn, 1) := by decide +kernel
theorem dX7_faultInHead_38 : decode cX7_faultInHead 38 = .ok (.aload_n 0, 1) := by decide +kernel
theorem dX7_faultInHead_39 : decode cX7_faultInHead 39 = .ok (.iconst 2, 1) := by decide +kernel
theorem dX7_faultInHead_40 : decode cX7_faultInHead 40 = .ok (.invokevirtual 42, 3) := by decide +kernel
theorem dX7_faultInHead_43 : decode cX7_faultInHead 43 = .ok (.ifCond .ne 7, 3) := by decide +kernel
theorem dX7_faultInHead_46 : decode cX7_faultInHead 46 = .ok (.iconst 1, 1) := by decide +kernel
theorem dX7_faultInHead_47 : decode cX7_faultInHead 47 = .ok (.goto 4, 3) := by decide +kernel
theorem dX7_faultInHead_50 : decode cX7_faultInHead 50 = .ok (.iconst 0, 1) := by decide +kernel
theorem dX7_faultInHead_51 : decode cX7_faultInHead 51 = .ok (.istore_n 1, 1) := by decide +kernel
theorem dX7_faultInHead_52 : decode cX7_faultInHead 52 = .ok (.aload_n 0, 1) := by decide +kernel
theorem dX7_faultInHead_53 : decode cX7_faultInHead 53 = .ok (.iconst 3, 1) := by decide +kernel
theorem dX7_faultInHead_54 : decode cX7_faultInHead 54 = .ok (.iload_n 1, 1) := by decide +kernel
theorem dX7_faultInHead_55 : decode cX7_faultInHead 55 = .ok (.bipush 9, 2) := by decide +kernel
theorem dX7_faultInHead_57 : decode cX7_faultInHead 57 = .ok (.invokevirtual 38, 3) := by decide +kernel
theorem dX7_faultInHead_60 : decode cX7_faultInHead 60 = .ok (.ifCond .eq 8, 3) := by decide +kernel
theorem dX7_faultInHead_63 : decode cX7_faultInHead 63 = .ok (.bipush (-9), 2) := by decide +kernel
theorem dX7_faultInHead_65 : decode cX7_faultInHead 65 = .ok (.goto 4, 3) := by decide +kernel
theorem dX7_faultInHead_68 : decode cX7_faultInHead 68 = .ok (.iconst 3, 1) := by decide +kernel
theorem dX7_faultInHead_69 : decode cX7_faultInHead 69 = .ok (.ireturn, 1) := by decide +kernel
set_option maxRecDepth 20000 in
theorem ggX7_faultInPlace_X7_isFilledPlace : GoodIn wsX7_faultInPlace wsX7_isFilledPlace := goodIn_r _ [5, 6, 7, 8, 4, 9, 10, 11, 24, 25] (by decide +kernel) (by decide +kernel)
set_option maxRecDepth 20000 in
theorem gX7_faultInPlace_X7_isFilledPlace : GoodIn wsX7_faultInPlace (wsV RX7 23 RX7 yX7_isFilledPlace wsX7_isFilledPlace) := goodIn_app (goodIn_of _ (by decide +kernel)) ggX7_faultInPlace_X7_isFilledPlace
set_option maxRecDepth 20000 in
theorem ggX7_faultInPlace_X7_byteAt : GoodIn wsX7_faultInPlace wsX7_byteAt := goodIn_r _ [9, 10, 11, 24, 25] (by decide +kernel) (by decide +kernel)
set_option maxRecDepth 20000 in
theorem gX7_faultInPlace_X7_byteAt : GoodIn wsX7_faultInPlace (wsV RX7 19 RX7 yX7_byteAt wsX7_byteAt) := goodIn_app (goodIn_of _ (by decide +kernel)) ggX7_faultInPlace_X7_byteAt
set_option maxRecDepth 20000 in
theorem ggX7_faultInPlace_X7_isFigure : GoodIn wsX7_faultInPlace wsX7_isFigure := goodIn_r _ [15, 16, 17, 18, 4, 19, 6, 7, 8, 9, 10, 11, 24, 25] (by decide +kernel) (by decide +kernel)
set_option maxRecDepth 20000 in
theorem gX7_faultInPlace_X7_isFigure : GoodIn wsX7_faultInPlace (wsV RX7 38 RX7 yX7_isFigure wsX7_isFigure) := goodIn_app (goodIn_of _ (by decide +kernel)) ggX7_faultInPlace_X7_isFigure
set_option maxRecDepth 20000 in
theorem ggX7_faultInPlace_X7_faultInTimber : GoodIn wsX7_faultInPlace wsX7_faultInTimber := goodIn_r _ [23, 12, 13, 14, 4, 15, 16, 17, 18, 19, 6, 7, 8, 9, 10, 11, 24, 25] (by decide +kernel) (by decide +kernel)
set_option maxRecDepth 20000 in
theorem gX7_faultInPlace_X7_faultInTimber : GoodIn wsX7_faultInPlace (wsV RX7 45 RX7 yX7_faultInTimber wsX7_faultInTimber) := goodIn_app (goodIn_of _ (by decide +kernel)) ggX7_faultInPlace_X7_faultInTimber
theorem dX7_faultInPlace_0 : decode cX7_faultInPlace 0 = .ok (.aload_n 0, 1) := by decide +kernel
theorem dX7_faultInPlace_1 : decode cX7_faultInPlace 1 = .ok (.iload_n 1, 1) := by decide +kernel
theorem dX7_faultInPlace_2 : decode cX7_faultInPlace 2 = .ok (.invokevirtual 23, 3) := by decide +kernel
theorem dX7_faultInPlace_5 : decode cX7_faultInPlace 5 = .ok (.ifCond .ne 15, 3) := by decide +kernel
theorem dX7_faultInPlace_8 : decode cX7_faultInPlace 8 = .ok (.aload_n 0, 1) := by decide +kernel
theorem dX7_faultInPlace_9 : decode cX7_faultInPlace 9 = .ok (.iload_n 1, 1) := by decide +kernel
theorem dX7_faultInPlace_10 : decode cX7_faultInPlace 10 = .ok (.invokevirtual 19, 3) := by decide +kernel
theorem dX7_faultInPlace_13 : decode cX7_faultInPlace 13 = .ok (.bipush 79, 2) := by decide +kernel
theorem dX7_faultInPlace_15 : decode cX7_faultInPlace 15 = .ok (.if_icmp .eq 5, 3) := by decide +kernel
theorem dX7_faultInPlace_18 : decode cX7_faultInPlace 18 = .ok (.iload_n 1, 1) := by decide +kernel
theorem dX7_faultInPlace_19 : decode cX7_faultInPlace 19 = .ok (.ireturn, 1) := by decide +kernel
theorem dX7_faultInPlace_20 : decode cX7_faultInPlace 20 = .ok (.aload_n 0, 1) := by decide +kernel
theorem dX7_faultInPlace_21 : decode cX7_faultInPlace 21 = .ok (.iload_n 1, 1) := by decide +kernel
theorem dX7_faultInPlace_22 : decode cX7_faultInPlace 22 = .ok (.iconst 1, 1) := by decide +kernel
theorem dX7_faultInPlace_23 : decode cX7_faultInPlace 23 = .ok (.iadd, 1) := by decide +kernel
theorem dX7_faultInPlace_24 : decode cX7_faultInPlace 24 = .ok (.iconst 1, 1) := by decide +kernel
theorem dX7_faultInPlace_25 : decode cX7_faultInPlace 25 = .ok (.bipush 9, 2) := by decide +kernel
theorem dX7_faultInPlace_27 : decode cX7_faultInPlace 27 = .ok (.invokevirtual 38, 3) := by decide +kernel
theorem dX7_faultInPlace_30 : decode cX7_faultInPlace 30 = .ok (.ifCond .ne 7, 3) := by decide +kernel
theorem dX7_faultInPlace_33 : decode cX7_faultInPlace 33 = .ok (.iload_n 1, 1) := by decide +kernel
theorem dX7_faultInPlace_34 : decode cX7_faultInPlace 34 = .ok (.iconst 1, 1) := by decide +kernel
theorem dX7_faultInPlace_35 : decode cX7_faultInPlace 35 = .ok (.iadd, 1) := by decide +kernel
theorem dX7_faultInPlace_36 : decode cX7_faultInPlace 36 = .ok (.ireturn, 1) := by decide +kernel
theorem dX7_faultInPlace_37 : decode cX7_faultInPlace 37 = .ok (.aload_n 0, 1) := by decide +kernel
theorem dX7_faultInPlace_38 : decode cX7_faultInPlace 38 = .ok (.iload_n 1, 1) := by decide +kernel
theorem dX7_faultInPlace_39 : decode cX7_faultInPlace 39 = .ok (.iconst 2, 1) := by decide +kernel
theorem dX7_faultInPlace_40 : decode cX7_faultInPlace 40 = .ok (.iadd, 1) := by decide +kernel
theorem dX7_faultInPlace_41 : decode cX7_faultInPlace 41 = .ok (.iconst 0, 1) := by decide +kernel
theorem dX7_faultInPlace_42 : decode cX7_faultInPlace 42 = .ok (.bipush 9, 2) := by decide +kernel
theorem dX7_faultInPlace_44 : decode cX7_faultInPlace 44 = .ok (.invokevirtual 38, 3) := by decide +kernel
theorem dX7_faultInPlace_47 : decode cX7_faultInPlace 47 = .ok (.ifCond .ne 7, 3) := by decide +kernel
theorem dX7_faultInPlace_50 : decode cX7_faultInPlace 50 = .ok (.iload_n 1, 1) := by decide +kernel
theorem dX7_faultInPlace_51 : decode cX7_faultInPlace 51 = .ok (.iconst 2, 1) := by decide +kernel
theorem dX7_faultInPlace_52 : decode cX7_faultInPlace 52 = .ok (.iadd, 1) := by decide +kernel
theorem dX7_faultInPlace_53 : decode cX7_faultInPlace 53 = .ok (.ireturn, 1) := by decide +kernel
theorem dX7_faultInPlace_54 : decode cX7_faultInPlace 54 = .ok (.aload_n 0, 1) := by decide +kernel
theorem dX7_faultInPlace_55 : decode cX7_faultInPlace 55 = .ok (.iload_n 1, 1) := by decide +kernel
theorem dX7_faultInPlace_56 : decode cX7_faultInPlace 56 = .ok (.iconst 3, 1) := by decide +kernel
theorem dX7_faultInPlace_57 : decode cX7_faultInPlace 57 = .ok (.iadd, 1) := by decide +kernel
theorem dX7_faultInPlace_58 : decode cX7_faultInPlace 58 = .ok (.invokevirtual 19, 3) := by decide +kernel
theorem dX7_faultInPlace_61 : decode cX7_faultInPlace 61 = .ok (.bipush 45, 2) := by decide +kernel
theorem dX7_faultInPlace_63 : decode cX7_faultInPlace 63 = .ok (.if_icmp .eq 21, 3) := by decide +kernel
theorem dX7_faultInPlace_66 : decode cX7_faultInPlace 66 = .ok (.aload_n 0, 1) := by decide +kernel
theorem dX7_faultInPlace_67 : decode cX7_faultInPlace 67 = .ok (.iload_n 1, 1) := by decide +kernel
theorem dX7_faultInPlace_68 : decode cX7_faultInPlace 68 = .ok (.iconst 3, 1) := by decide +kernel
theorem dX7_faultInPlace_69 : decode cX7_faultInPlace 69 = .ok (.iadd, 1) := by decide +kernel
theorem dX7_faultInPlace_70 : decode cX7_faultInPlace 70 = .ok (.iconst 0, 1) := by decide +kernel
theorem dX7_faultInPlace_71 : decode cX7_faultInPlace 71 = .ok (.iload_n 2, 1) := by decide +kernel
theorem dX7_faultInPlace_72 : decode cX7_faultInPlace 72 = .ok (.iconst 1, 1) := by decide +kernel
theorem dX7_faultInPlace_73 : decode cX7_faultInPlace 73 = .ok (.isub, 1) := by decide +kernel
theorem dX7_faultInPlace_74 : decode cX7_faultInPlace 74 = .ok (.invokevirtual 38, 3) := by decide +kernel
theorem dX7_faultInPlace_77 : decode cX7_faultInPlace 77 = .ok (.ifCond .ne 7, 3) := by decide +kernel
theorem dX7_faultInPlace_80 : decode cX7_faultInPlace 80 = .ok (.iload_n 1, 1) := by decide +kernel
theorem dX7_faultInPlace_81 : decode cX7_faultInPlace 81 = .ok (.iconst 3, 1) := by decide +kernel
theorem dX7_faultInPlace_82 : decode cX7_faultInPlace 82 = .ok (.iadd, 1) := by decide +kernel
theorem dX7_faultInPlace_83 : decode cX7_faultInPlace 83 = .ok (.ireturn, 1) := by decide +kernel
theorem dX7_faultInPlace_84 : decode cX7_faultInPlace 84 = .ok (.aload_n 0, 1) := by decide +kernel
theorem dX7_faultInPlace_85 : decode cX7_faultInPlace 85 = .ok (.iload_n 1, 1) := by decide +kernel
theorem dX7_faultInPlace_86 : decode cX7_faultInPlace 86 = .ok (.invokevirtual 23, 3) := by decide +kernel
theorem dX7_faultInPlace_89 : decode cX7_faultInPlace 89 = .ok (.ifCond .eq 11, 3) := by decide +kernel
theorem dX7_faultInPlace_92 : decode cX7_faultInPlace 92 = .ok (.aload_n 0, 1) := by decide +kernel
theorem dX7_faultInPlace_93 : decode cX7_faultInPlace 93 = .ok (.iload_n 1, 1) := by decide +kernel
theorem dX7_faultInPlace_94 : decode cX7_faultInPlace 94 = .ok (.invokevirtual 45, 3) := by decide +kernel
theorem dX7_faultInPlace_97 : decode cX7_faultInPlace 97 = .ok (.goto 5, 3) := by decide +kernel
theorem dX7_faultInPlace_100 : decode cX7_faultInPlace 100 = .ok (.bipush (-9), 2) := by decide +kernel
theorem dX7_faultInPlace_102 : decode cX7_faultInPlace 102 = .ok (.ireturn, 1) := by decide +kernel
set_option maxRecDepth 20000 in
theorem ggX7_faultInTimber_X7_isFigure : GoodIn wsX7_faultInTimber wsX7_isFigure := goodIn_r _ [5, 6, 7, 8, 4, 9, 10, 11, 12, 13, 14, 15, 16, 17] (by decide +kernel) (by decide +kernel)
set_option maxRecDepth 20000 in
theorem gX7_faultInTimber_X7_isFigure : GoodIn wsX7_faultInTimber (wsV RX7 38 RX7 yX7_isFigure wsX7_isFigure) := goodIn_app (goodIn_of _ (by decide +kernel)) ggX7_faultInTimber_X7_isFigure
theorem dX7_faultInTimber_0 : decode cX7_faultInTimber 0 = .ok (.aload_n 0, 1) := by decide +kernel
theorem dX7_faultInTimber_1 : decode cX7_faultInTimber 1 = .ok (.iload_n 1, 1) := by decide +kernel
theorem dX7_faultInTimber_2 : decode cX7_faultInTimber 2 = .ok (.iconst 4, 1) := by decide +kernel
theorem dX7_faultInTimber_3 : decode cX7_faultInTimber 3 = .ok (.iadd, 1) := by decide +kernel
theorem dX7_faultInTimber_4 : decode cX7_faultInTimber 4 = .ok (.iconst 0, 1) := by decide +kernel
theorem dX7_faultInTimber_5 : decode cX7_faultInTimber 5 = .ok (.iconst 2, 1) := by decide +kernel
theorem dX7_faultInTimber_6 : decode cX7_faultInTimber 6 = .ok (.invokevirtual 38, 3) := by decide +kernel
theorem dX7_faultInTimber_9 : decode cX7_faultInTimber 9 = .ok (.ifCond .ne 7, 3) := by decide +kernel
theorem dX7_faultInTimber_12 : decode cX7_faultInTimber 12 = .ok (.iload_n 1, 1) := by decide +kernel
theorem dX7_faultInTimber_13 : decode cX7_faultInTimber 13 = .ok (.iconst 4, 1) := by decide +kernel
theorem dX7_faultInTimber_14 : decode cX7_faultInTimber 14 = .ok (.iadd, 1) := by decide +kernel
theorem dX7_faultInTimber_15 : decode cX7_faultInTimber 15 = .ok (.ireturn, 1) := by decide +kernel
theorem dX7_faultInTimber_16 : decode cX7_faultInTimber 16 = .ok (.aload_n 0, 1) := by decide +kernel
theorem dX7_faultInTimber_17 : decode cX7_faultInTimber 17 = .ok (.iload_n 1, 1) := by decide +kernel
theorem dX7_faultInTimber_18 : decode cX7_faultInTimber 18 = .ok (.iconst 5, 1) := by decide +kernel
theorem dX7_faultInTimber_19 : decode cX7_faultInTimber 19 = .ok (.iadd, 1) := by decide +kernel
theorem dX7_faultInTimber_20 : decode cX7_faultInTimber 20 = .ok (.iconst 0, 1) := by decide +kernel
theorem dX7_faultInTimber_21 : decode cX7_faultInTimber 21 = .ok (.bipush 9, 2) := by decide +kernel
theorem dX7_faultInTimber_23 : decode cX7_faultInTimber 23 = .ok (.invokevirtual 38, 3) := by decide +kernel
theorem dX7_faultInTimber_26 : decode cX7_faultInTimber 26 = .ok (.ifCond .eq 8, 3) := by decide +kernel
theorem dX7_faultInTimber_29 : decode cX7_faultInTimber 29 = .ok (.bipush (-9), 2) := by decide +kernel
theorem dX7_faultInTimber_31 : decode cX7_faultInTimber 31 = .ok (.goto 6, 3) := by decide +kernel
theorem dX7_faultInTimber_34 : decode cX7_faultInTimber 34 = .ok (.iload_n 1, 1) := by decide +kernel
theorem dX7_faultInTimber_35 : decode cX7_faultInTimber 35 = .ok (.iconst 5, 1) := by decide +kernel
theorem dX7_faultInTimber_36 : decode cX7_faultInTimber 36 = .ok (.iadd, 1) := by decide +kernel
theorem dX7_faultInTimber_37 : decode cX7_faultInTimber 37 = .ok (.ireturn, 1) := by decide +kernel
set_option maxRecDepth 20000 in
theorem ggX7_isFigure_X7_figureAt : GoodIn wsX7_isFigure wsX7_figureAt := goodIn_r _ [5, 6, 7, 8, 4, 9, 10, 11, 12, 13] (by decide +kernel) (by decide +kernel)
set_option maxRecDepth 20000 in
theorem gX7_isFigure_X7_figureAt : GoodIn wsX7_isFigure (wsV RX7 42 RX7 yX7_figureAt wsX7_figureAt) := goodIn_app (goodIn_of _ (by decide +kernel)) ggX7_isFigure_X7_figureAt
theorem dX7_isFigure_0 : decode cX7_isFigure 0 = .ok (.aload_n 0, 1) := by decide +kernel
theorem dX7_isFigure_1 : decode cX7_isFigure 1 = .ok (.iload_n 1, 1) := by decide +kernel
theorem dX7_isFigure_2 : decode cX7_isFigure 2 = .ok (.invokevirtual 42, 3) := by decide +kernel
theorem dX7_isFigure_5 : decode cX7_isFigure 5 = .ok (.iload_n 2, 1) := by decide +kernel
theorem dX7_isFigure_6 : decode cX7_isFigure 6 = .ok (.if_icmp .lt 16, 3) := by decide +kernel
theorem dX7_isFigure_9 : decode cX7_isFigure 9 = .ok (.aload_n 0, 1) := by decide +kernel
theorem dX7_isFigure_10 : decode cX7_isFigure 10 = .ok (.iload_n 1, 1) := by decide +kernel
theorem dX7_isFigure_11 : decode cX7_isFigure 11 = .ok (.invokevirtual 42, 3) := by decide +kernel
theorem dX7_isFigure_14 : decode cX7_isFigure 14 = .ok (.iload_n 3, 1) := by decide +kernel
theorem dX7_isFigure_15 : decode cX7_isFigure 15 = .ok (.if_icmp .gt 7, 3) := by decide +kernel
theorem dX7_isFigure_18 : decode cX7_isFigure 18 = .ok (.iconst 1, 1) := by decide +kernel
theorem dX7_isFigure_19 : decode cX7_isFigure 19 = .ok (.goto 4, 3) := by decide +kernel
theorem dX7_isFigure_22 : decode cX7_isFigure 22 = .ok (.iconst 0, 1) := by decide +kernel
theorem dX7_isFigure_23 : decode cX7_isFigure 23 = .ok (.ireturn, 1) := by decide +kernel
