theorem dX9_canPut_46 : decode cX9_canPut 46 = .ok (.iaload, 1) := by decide +kernel
theorem dX9_canPut_47 : decode cX9_canPut 47 = .ok (.bipush (-9), 2) := by decide +kernel
theorem dX9_canPut_49 : decode cX9_canPut 49 = .ok (.if_icmp .eq 19, 3) := by decide +kernel
theorem dX9_canPut_52 : decode cX9_canPut 52 = .ok (.aload_n 0, 1) := by decide +kernel
theorem dX9_canPut_53 : decode cX9_canPut 53 = .ok (.iload_n 1, 1) := by decide +kernel
theorem dX9_canPut_54 : decode cX9_canPut 54 = .ok (.aload_n 0, 1) := by decide +kernel
theorem dX9_canPut_55 : decode cX9_canPut 55 = .ok (.getfield 31, 3) := by decide +kernel
theorem dX9_canPut_58 : decode cX9_canPut 58 = .ok (.iload_n 3, 1) := by decide +kernel
theorem dX9_canPut_59 : decode cX9_canPut 59 = .ok (.iaload, 1) := by decide +kernel
theorem dX9_canPut_60 : decode cX9_canPut 60 = .ok (.invokevirtual 134, 3) := by decide +kernel
theorem dX9_canPut_63 : decode cX9_canPut 63 = .ok (.bipush (-9), 2) := by decide +kernel
theorem dX9_canPut_65 : decode cX9_canPut 65 = .ok (.if_icmp .eq 7, 3) := by decide +kernel
theorem dX9_canPut_68 : decode cX9_canPut 68 = .ok (.iconst 1, 1) := by decide +kernel
theorem dX9_canPut_69 : decode cX9_canPut 69 = .ok (.goto 4, 3) := by decide +kernel
theorem dX9_canPut_72 : decode cX9_canPut 72 = .ok (.iconst 0, 1) := by decide +kernel
theorem dX9_canPut_73 : decode cX9_canPut 73 = .ok (.ireturn, 1) := by decide +kernel
set_option maxRecDepth 20000 in
theorem ggX9_goes_X9_canTake : GoodIn wsX9_goes wsX9_canTake := goodIn_r _ [8, 9, 10, 11, 7, 12, 13, 1, 14, 15, 16, 17, 18, 23, 24, 25, 26, 27, 28, 29, 30, 31, 32, 33, 34, 35, 36, 37, 38, 39, 40, 41, 42, 43, 44, 45, 46, 47, 48, 49, 50, 51, 52, 53, 54, 55, 56, 57] (by decide +kernel) (by decide +kernel)
set_option maxRecDepth 20000 in
theorem gX9_goes_X9_canTake : GoodIn wsX9_goes (wsV RX9 141 RX9 yX9_canTake wsX9_canTake) := goodIn_app (goodIn_of _ (by decide +kernel)) ggX9_goes_X9_canTake
set_option maxRecDepth 20000 in
theorem ggX9_goes_X9_canPut : GoodIn wsX9_goes wsX9_canPut := goodIn_r _ [22, 1, 2, 3, 18, 9, 10, 11, 7, 12, 13, 23, 24, 25, 26, 27, 28, 29, 30, 31, 32, 33, 34, 35, 36, 37, 38, 39, 40, 41, 42, 43, 44, 45, 46, 47, 48, 49, 50, 51, 52, 53, 54, 55, 56, 57] (by decide +kernel) (by decide +kernel)
set_option maxRecDepth 20000 in
theorem gX9_goes_X9_canPut : GoodIn wsX9_goes (wsV RX9 144 RX9 yX9_canPut wsX9_canPut) := goodIn_app (goodIn_of _ (by decide +kernel)) ggX9_goes_X9_canPut
theorem dX9_goes_0 : decode cX9_goes 0 = .ok (.aload_n 0, 1) := by decide +kernel
theorem dX9_goes_1 : decode cX9_goes 1 = .ok (.getfield 40, 3) := by decide +kernel
theorem dX9_goes_4 : decode cX9_goes 4 = .ok (.iload_n 1, 1) := by decide +kernel
theorem dX9_goes_5 : decode cX9_goes 5 = .ok (.iload_n 2, 1) := by decide +kernel
theorem dX9_goes_6 : decode cX9_goes 6 = .ok (.iadd, 1) := by decide +kernel
theorem dX9_goes_7 : decode cX9_goes 7 = .ok (.iaload, 1) := by decide +kernel
theorem dX9_goes_8 : decode cX9_goes 8 = .ok (.istore 4, 2) := by decide +kernel
theorem dX9_goes_10 : decode cX9_goes 10 = .ok (.iload 4, 2) := by decide +kernel
theorem dX9_goes_12 : decode cX9_goes 12 = .ok (.sipush 200, 3) := by decide +kernel
theorem dX9_goes_15 : decode cX9_goes 15 = .ok (.if_icmp .eq 26, 3) := by decide +kernel
theorem dX9_goes_18 : decode cX9_goes 18 = .ok (.iload 4, 2) := by decide +kernel
theorem dX9_goes_20 : decode cX9_goes 20 = .ok (.iload_n 3, 1) := by decide +kernel
theorem dX9_goes_21 : decode cX9_goes 21 = .ok (.if_icmp .eq 20, 3) := by decide +kernel
theorem dX9_goes_24 : decode cX9_goes 24 = .ok (.iload 4, 2) := by decide +kernel
theorem dX9_goes_26 : decode cX9_goes 26 = .ok (.bipush 100, 2) := by decide +kernel
theorem dX9_goes_28 : decode cX9_goes 28 = .ok (.if_icmp .eq 15, 3) := by decide +kernel
theorem dX9_goes_31 : decode cX9_goes 31 = .ok (.aload_n 0, 1) := by decide +kernel
theorem dX9_goes_32 : decode cX9_goes 32 = .ok (.iload_n 1, 1) := by decide +kernel
theorem dX9_goes_33 : decode cX9_goes 33 = .ok (.iload 4, 2) := by decide +kernel
theorem dX9_goes_35 : decode cX9_goes 35 = .ok (.invokevirtual 141, 3) := by decide +kernel
theorem dX9_goes_38 : decode cX9_goes 38 = .ok (.ifCond .ne 5, 3) := by decide +kernel
theorem dX9_goes_41 : decode cX9_goes 41 = .ok (.iconst 0, 1) := by decide +kernel
theorem dX9_goes_42 : decode cX9_goes 42 = .ok (.ireturn, 1) := by decide +kernel
theorem dX9_goes_43 : decode cX9_goes 43 = .ok (.aload_n 0, 1) := by decide +kernel
theorem dX9_goes_44 : decode cX9_goes 44 = .ok (.getfield 40, 3) := by decide +kernel
theorem dX9_goes_47 : decode cX9_goes 47 = .ok (.iload_n 1, 1) := by decide +kernel
theorem dX9_goes_48 : decode cX9_goes 48 = .ok (.iload_n 2, 1) := by decide +kernel
theorem dX9_goes_49 : decode cX9_goes 49 = .ok (.iadd, 1) := by decide +kernel
theorem dX9_goes_50 : decode cX9_goes 50 = .ok (.bipush 100, 2) := by decide +kernel
theorem dX9_goes_52 : decode cX9_goes 52 = .ok (.iastore, 1) := by decide +kernel
theorem dX9_goes_53 : decode cX9_goes 53 = .ok (.aload_n 0, 1) := by decide +kernel
theorem dX9_goes_54 : decode cX9_goes 54 = .ok (.iload_n 1, 1) := by decide +kernel
theorem dX9_goes_55 : decode cX9_goes 55 = .ok (.iload_n 2, 1) := by decide +kernel
theorem dX9_goes_56 : decode cX9_goes 56 = .ok (.iload_n 3, 1) := by decide +kernel
theorem dX9_goes_57 : decode cX9_goes 57 = .ok (.invokevirtual 144, 3) := by decide +kernel
theorem dX9_goes_60 : decode cX9_goes 60 = .ok (.ifCond .ne 15, 3) := by decide +kernel
theorem dX9_goes_63 : decode cX9_goes 63 = .ok (.aload_n 0, 1) := by decide +kernel
theorem dX9_goes_64 : decode cX9_goes 64 = .ok (.getfield 40, 3) := by decide +kernel
theorem dX9_goes_67 : decode cX9_goes 67 = .ok (.iload_n 1, 1) := by decide +kernel
theorem dX9_goes_68 : decode cX9_goes 68 = .ok (.iload_n 2, 1) := by decide +kernel
theorem dX9_goes_69 : decode cX9_goes 69 = .ok (.iadd, 1) := by decide +kernel
theorem dX9_goes_70 : decode cX9_goes 70 = .ok (.iload 4, 2) := by decide +kernel
theorem dX9_goes_72 : decode cX9_goes 72 = .ok (.iastore, 1) := by decide +kernel
theorem dX9_goes_73 : decode cX9_goes 73 = .ok (.iconst 0, 1) := by decide +kernel
theorem dX9_goes_74 : decode cX9_goes 74 = .ok (.ireturn, 1) := by decide +kernel
theorem dX9_goes_75 : decode cX9_goes 75 = .ok (.aload_n 0, 1) := by decide +kernel
theorem dX9_goes_76 : decode cX9_goes 76 = .ok (.getfield 40, 3) := by decide +kernel
theorem dX9_goes_79 : decode cX9_goes 79 = .ok (.iload_n 1, 1) := by decide +kernel
theorem dX9_goes_80 : decode cX9_goes 80 = .ok (.iload_n 2, 1) := by decide +kernel
theorem dX9_goes_81 : decode cX9_goes 81 = .ok (.iadd, 1) := by decide +kernel
theorem dX9_goes_82 : decode cX9_goes 82 = .ok (.iload_n 3, 1) := by decide +kernel
theorem dX9_goes_83 : decode cX9_goes 83 = .ok (.iastore, 1) := by decide +kernel
theorem dX9_goes_84 : decode cX9_goes 84 = .ok (.aload_n 0, 1) := by decide +kernel
theorem dX9_goes_85 : decode cX9_goes 85 = .ok (.getfield 43, 3) := by decide +kernel
theorem dX9_goes_88 : decode cX9_goes 88 = .ok (.iload_n 1, 1) := by decide +kernel
theorem dX9_goes_89 : decode cX9_goes 89 = .ok (.iload_n 2, 1) := by decide +kernel
theorem dX9_goes_90 : decode cX9_goes 90 = .ok (.iadd, 1) := by decide +kernel
theorem dX9_goes_91 : decode cX9_goes 91 = .ok (.aload_n 0, 1) := by decide +kernel
theorem dX9_goes_92 : decode cX9_goes 92 = .ok (.getfield 25, 3) := by decide +kernel
theorem dX9_goes_95 : decode cX9_goes 95 = .ok (.iload_n 3, 1) := by decide +kernel
theorem dX9_goes_96 : decode cX9_goes 96 = .ok (.iaload, 1) := by decide +kernel
theorem dX9_goes_97 : decode cX9_goes 97 = .ok (.iastore, 1) := by decide +kernel
theorem dX9_goes_98 : decode cX9_goes 98 = .ok (.iconst 1, 1) := by decide +kernel
theorem dX9_goes_99 : decode cX9_goes 99 = .ok (.ireturn, 1) := by decide +kernel
theorem dX9_copy_0 : decode cX9_copy 0 = .ok (.iconst 0, 1) := by decide +kernel
theorem dX9_copy_1 : decode cX9_copy 1 = .ok (.istore_n 3, 1) := by decide +kernel
theorem dX9_copy_2 : decode cX9_copy 2 = .ok (.iload_n 3, 1) := by decide +kernel
theorem dX9_copy_3 : decode cX9_copy 3 = .ok (.bipush 10, 2) := by decide +kernel
theorem dX9_copy_5 : decode cX9_copy 5 = .ok (.if_icmp .ge 57, 3) := by decide +kernel
theorem dX9_copy_8 : decode cX9_copy 8 = .ok (.aload_n 0, 1) := by decide +kernel
theorem dX9_copy_9 : decode cX9_copy 9 = .ok (.getfield 40, 3) := by decide +kernel
theorem dX9_copy_12 : decode cX9_copy 12 = .ok (.iload_n 2, 1) := by decide +kernel
theorem dX9_copy_13 : decode cX9_copy 13 = .ok (.iload_n 3, 1) := by decide +kernel
theorem dX9_copy_14 : decode cX9_copy 14 = .ok (.iadd, 1) := by decide +kernel
theorem dX9_copy_15 : decode cX9_copy 15 = .ok (.aload_n 0, 1) := by decide +kernel
theorem dX9_copy_16 : decode cX9_copy 16 = .ok (.getfield 40, 3) := by decide +kernel
theorem dX9_copy_19 : decode cX9_copy 19 = .ok (.iload_n 1, 1) := by decide +kernel
theorem dX9_copy_20 : decode cX9_copy 20 = .ok (.iload_n 3, 1) := by decide +kernel
theorem dX9_copy_21 : decode cX9_copy 21 = .ok (.iadd, 1) := by decide +kernel
theorem dX9_copy_22 : decode cX9_copy 22 = .ok (.iaload, 1) := by decide +kernel
theorem dX9_copy_23 : decode cX9_copy 23 = .ok (.iastore, 1) := by decide +kernel
theorem dX9_copy_24 : decode cX9_copy 24 = .ok (.aload_n 0, 1) := by decide +kernel
theorem dX9_copy_25 : decode cX9_copy 25 = .ok (.getfield 43, 3) := by decide +kernel
theorem dX9_copy_28 : decode cX9_copy 28 = .ok (.iload_n 2, 1) := by decide +kernel
theorem dX9_copy_29 : decode cX9_copy 29 = .ok (.iload_n 3, 1) := by decide +kernel
theorem dX9_copy_30 : decode cX9_copy 30 = .ok (.iadd, 1) := by decide +kernel
theorem dX9_copy_31 : decode cX9_copy 31 = .ok (.aload_n 0, 1) := by decide +kernel
theorem dX9_copy_32 : decode cX9_copy 32 = .ok (.getfield 43, 3) := by decide +kernel
theorem dX9_copy_35 : decode cX9_copy 35 = .ok (.iload_n 1, 1) := by decide +kernel
theorem dX9_copy_36 : decode cX9_copy 36 = .ok (.iload_n 3, 1) := by decide +kernel
theorem dX9_copy_37 : decode cX9_copy 37 = .ok (.iadd, 1) := by decide +kernel
theorem dX9_copy_38 : decode cX9_copy 38 = .ok (.iaload, 1) := by decide +kernel
theorem dX9_copy_39 : decode cX9_copy 39 = .ok (.iastore, 1) := by decide +kernel
theorem dX9_copy_40 : decode cX9_copy 40 = .ok (.aload_n 0, 1) := by decide +kernel
theorem dX9_copy_41 : decode cX9_copy 41 = .ok (.getfield 46, 3) := by decide +kernel
theorem dX9_copy_44 : decode cX9_copy 44 = .ok (.iload_n 2, 1) := by decide +kernel
theorem dX9_copy_45 : decode cX9_copy 45 = .ok (.iload_n 3, 1) := by decide +kernel
theorem dX9_copy_46 : decode cX9_copy 46 = .ok (.iadd, 1) := by decide +kernel
theorem dX9_copy_47 : decode cX9_copy 47 = .ok (.aload_n 0, 1) := by decide +kernel
theorem dX9_copy_48 : decode cX9_copy 48 = .ok (.getfield 46, 3) := by decide +kernel
theorem dX9_copy_51 : decode cX9_copy 51 = .ok (.iload_n 1, 1) := by decide +kernel
theorem dX9_copy_52 : decode cX9_copy 52 = .ok (.iload_n 3, 1) := by decide +kernel
theorem dX9_copy_53 : decode cX9_copy 53 = .ok (.iadd, 1) := by decide +kernel
theorem dX9_copy_54 : decode cX9_copy 54 = .ok (.iaload, 1) := by decide +kernel
theorem dX9_copy_55 : decode cX9_copy 55 = .ok (.iastore, 1) := by decide +kernel
theorem dX9_copy_56 : decode cX9_copy 56 = .ok (.iinc 3 1, 3) := by decide +kernel
theorem dX9_copy_59 : decode cX9_copy 59 = .ok (.goto (-57), 3) := by decide +kernel
theorem dX9_copy_62 : decode cX9_copy 62 = .ok (.return_, 1) := by decide +kernel
set_option maxRecDepth 20000 in
theorem ggX9_openSet_X9_inside : GoodIn wsX9_openSet wsX9_inside := goodIn_r _ [6, 1, 7, 8, 9, 10, 11, 12, 13, 14, 15, 16, 17, 18, 19, 20, 21, 22, 23, 24, 25, 26, 27, 28, 29, 30, 31, 32, 33, 34, 35, 36, 37, 38, 39, 40, 41, 42] (by decide +kernel) (by decide +kernel)
set_option maxRecDepth 20000 in
theorem gX9_openSet_X9_inside : GoodIn wsX9_openSet (wsV RX9 134 RX9 yX9_inside wsX9_inside) := goodIn_app (goodIn_of _ (by decide +kernel)) ggX9_openSet_X9_inside
theorem dX9_openSet_0 : decode cX9_openSet 0 = .ok (.iconst 0, 1) := by decide +kernel
theorem dX9_openSet_1 : decode cX9_openSet 1 = .ok (.istore_n 2, 1) := by decide +kernel
theorem dX9_openSet_2 : decode cX9_openSet 2 = .ok (.iconst 0, 1) := by decide +kernel
theorem dX9_openSet_3 : decode cX9_openSet 3 = .ok (.istore_n 3, 1) := by decide +kernel
theorem dX9_openSet_4 : decode cX9_openSet 4 = .ok (.iload_n 3, 1) := by decide +kernel
theorem dX9_openSet_5 : decode cX9_openSet 5 = .ok (.aload_n 0, 1) := by decide +kernel
theorem dX9_openSet_6 : decode cX9_openSet 6 = .ok (.getfield 114, 3) := by decide +kernel
theorem dX9_openSet_9 : decode cX9_openSet 9 = .ok (.if_icmp .ge 30, 3) := by decide +kernel
theorem dX9_openSet_12 : decode cX9_openSet 12 = .ok (.iload_n 2, 1) := by decide +kernel
theorem dX9_openSet_13 : decode cX9_openSet 13 = .ok (.aload_n 0, 1) := by decide +kernel
theorem dX9_openSet_14 : decode cX9_openSet 14 = .ok (.iload_n 1, 1) := by decide +kernel
theorem dX9_openSet_15 : decode cX9_openSet 15 = .ok (.iload_n 3, 1) := by decide +kernel
theorem dX9_openSet_16 : decode cX9_openSet 16 = .ok (.invokevirtual 134, 3) := by decide +kernel
theorem dX9_openSet_19 : decode cX9_openSet 19 = .ok (.bipush (-9), 2) := by decide +kernel
theorem dX9_openSet_21 : decode cX9_openSet 21 = .ok (.if_icmp .ne 9, 3) := by decide +kernel
theorem dX9_openSet_24 : decode cX9_openSet 24 = .ok (.iconst 1, 1) := by decide +kernel
theorem dX9_openSet_25 : decode cX9_openSet 25 = .ok (.iload_n 3, 1) := by decide +kernel
theorem dX9_openSet_26 : decode cX9_openSet 26 = .ok (.ishl, 1) := by decide +kernel
theorem dX9_openSet_27 : decode cX9_openSet 27 = .ok (.goto 4, 3) := by decide +kernel
theorem dX9_openSet_30 : decode cX9_openSet 30 = .ok (.iconst 0, 1) := by decide +kernel
theorem dX9_openSet_31 : decode cX9_openSet 31 = .ok (.ior, 1) := by decide +kernel
theorem dX9_openSet_32 : decode cX9_openSet 32 = .ok (.istore_n 2, 1) := by decide +kernel
theorem dX9_openSet_33 : decode cX9_openSet 33 = .ok (.iinc 3 1, 3) := by decide +kernel
theorem dX9_openSet_36 : decode cX9_openSet 36 = .ok (.goto (-32), 3) := by decide +kernel
theorem dX9_openSet_39 : decode cX9_openSet 39 = .ok (.iload_n 2, 1) := by decide +kernel
theorem dX9_openSet_40 : decode cX9_openSet 40 = .ok (.ireturn, 1) := by decide +kernel
set_option maxRecDepth 20000 in
theorem ggX9_leakOf_X9_openSet : GoodIn wsX9_leakOf wsX9_openSet := goodIn_r _ [7, 1, 8, 9, 10, 6, 11, 12, 13, 14, 15, 16, 17, 18, 19, 20, 21, 22, 23, 24, 25, 26, 27, 28, 29, 30, 31, 32, 33, 34, 35, 36, 37, 38, 39, 40, 41, 42, 43, 44, 45, 46, 47] (by decide +kernel) (by decide +kernel)
set_option maxRecDepth 20000 in
theorem gX9_leakOf_X9_openSet : GoodIn wsX9_leakOf (wsV RX9 148 RX9 yX9_openSet wsX9_openSet) := goodIn_app (goodIn_of _ (by decide +kernel)) ggX9_leakOf_X9_openSet
theorem dX9_leakOf_0 : decode cX9_leakOf 0 = .ok (.aload_n 0, 1) := by decide +kernel
theorem dX9_leakOf_1 : decode cX9_leakOf 1 = .ok (.iload_n 1, 1) := by decide +kernel
theorem dX9_leakOf_2 : decode cX9_leakOf 2 = .ok (.invokevirtual 148, 3) := by decide +kernel
theorem dX9_leakOf_5 : decode cX9_leakOf 5 = .ok (.istore_n 2, 1) := by decide +kernel
theorem dX9_leakOf_6 : decode cX9_leakOf 6 = .ok (.iconst 0, 1) := by decide +kernel
theorem dX9_leakOf_7 : decode cX9_leakOf 7 = .ok (.istore_n 3, 1) := by decide +kernel
theorem dX9_leakOf_8 : decode cX9_leakOf 8 = .ok (.iconst 0, 1) := by decide +kernel
theorem dX9_leakOf_9 : decode cX9_leakOf 9 = .ok (.istore 4, 2) := by decide +kernel
theorem dX9_leakOf_11 : decode cX9_leakOf 11 = .ok (.iload 4, 2) := by decide +kernel
theorem dX9_leakOf_13 : decode cX9_leakOf 13 = .ok (.aload_n 0, 1) := by decide +kernel
theorem dX9_leakOf_14 : decode cX9_leakOf 14 = .ok (.getfield 114, 3) := by decide +kernel
theorem dX9_leakOf_17 : decode cX9_leakOf 17 = .ok (.if_icmp .ge 33, 3) := by decide +kernel
theorem dX9_leakOf_20 : decode cX9_leakOf 20 = .ok (.iload_n 3, 1) := by decide +kernel
theorem dX9_leakOf_21 : decode cX9_leakOf 21 = .ok (.iload_n 2, 1) := by decide +kernel
theorem dX9_leakOf_22 : decode cX9_leakOf 22 = .ok (.iload 4, 2) := by decide +kernel
theorem dX9_leakOf_24 : decode cX9_leakOf 24 = .ok (.ishr, 1) := by decide +kernel
theorem dX9_leakOf_25 : decode cX9_leakOf 25 = .ok (.iconst 1, 1) := by decide +kernel
theorem dX9_leakOf_26 : decode cX9_leakOf 26 = .ok (.iand, 1) := by decide +kernel
theorem dX9_leakOf_27 : decode cX9_leakOf 27 = .ok (.iconst 1, 1) := by decide +kernel
theorem dX9_leakOf_28 : decode cX9_leakOf 28 = .ok (.if_icmp .ne 13, 3) := by decide +kernel
theorem dX9_leakOf_31 : decode cX9_leakOf 31 = .ok (.aload_n 0, 1) := by decide +kernel
theorem dX9_leakOf_32 : decode cX9_leakOf 32 = .ok (.getfield 28, 3) := by decide +kernel
theorem dX9_leakOf_35 : decode cX9_leakOf 35 = .ok (.iload 4, 2) := by decide +kernel
theorem dX9_leakOf_37 : decode cX9_leakOf 37 = .ok (.iaload, 1) := by decide +kernel
theorem dX9_leakOf_38 : decode cX9_leakOf 38 = .ok (.goto 4, 3) := by decide +kernel
theorem dX9_leakOf_41 : decode cX9_leakOf 41 = .ok (.iconst 0, 1) := by decide +kernel
theorem dX9_leakOf_42 : decode cX9_leakOf 42 = .ok (.iadd, 1) := by decide +kernel
theorem dX9_leakOf_43 : decode cX9_leakOf 43 = .ok (.istore_n 3, 1) := by decide +kernel
theorem dX9_leakOf_44 : decode cX9_leakOf 44 = .ok (.iinc 4 1, 3) := by decide +kernel
theorem dX9_leakOf_47 : decode cX9_leakOf 47 = .ok (.goto (-36), 3) := by decide +kernel
theorem dX9_leakOf_50 : decode cX9_leakOf 50 = .ok (.iload_n 3, 1) := by decide +kernel
theorem dX9_leakOf_51 : decode cX9_leakOf 51 = .ok (.ireturn, 1) := by decide +kernel
set_option maxRecDepth 20000 in
theorem ggX9_comeDown_X9_inside : GoodIn wsX9_comeDown wsX9_inside := goodIn_r _ [8, 1, 2, 9, 10, 11, 12, 13, 14, 15, 16, 17, 18, 19, 20, 21, 22, 23, 24, 25, 26, 27, 28, 29, 30, 31, 32, 33, 34, 35, 36, 37, 38, 39, 40, 41, 42, 43] (by decide +kernel) (by decide +kernel)
set_option maxRecDepth 20000 in
theorem gX9_comeDown_X9_inside : GoodIn wsX9_comeDown (wsV RX9 134 RX9 yX9_inside wsX9_inside) := goodIn_app (goodIn_of _ (by decide +kernel)) ggX9_comeDown_X9_inside
theorem dX9_comeDown_0 : decode cX9_comeDown 0 = .ok (.iconst 1, 1) := by decide +kernel
theorem dX9_comeDown_1 : decode cX9_comeDown 1 = .ok (.istore_n 2, 1) := by decide +kernel
theorem dX9_comeDown_2 : decode cX9_comeDown 2 = .ok (.iload_n 2, 1) := by decide +kernel
theorem dX9_comeDown_3 : decode cX9_comeDown 3 = .ok (.ifCond .eq 82, 3) := by decide +kernel
theorem dX9_comeDown_6 : decode cX9_comeDown 6 = .ok (.iconst 0, 1) := by decide +kernel
theorem dX9_comeDown_7 : decode cX9_comeDown 7 = .ok (.istore_n 2, 1) := by decide +kernel
theorem dX9_comeDown_8 : decode cX9_comeDown 8 = .ok (.iconst 0, 1) := by decide +kernel
theorem dX9_comeDown_9 : decode cX9_comeDown 9 = .ok (.istore_n 3, 1) := by decide +kernel
theorem dX9_comeDown_10 : decode cX9_comeDown 10 = .ok (.iload_n 3, 1) := by decide +kernel
theorem dX9_comeDown_11 : decode cX9_comeDown 11 = .ok (.aload_n 0, 1) := by decide +kernel
theorem dX9_comeDown_12 : decode cX9_comeDown 12 = .ok (.getfield 114, 3) := by decide +kernel
theorem dX9_comeDown_15 : decode cX9_comeDown 15 = .ok (.if_icmp .ge 67, 3) := by decide +kernel
theorem dX9_comeDown_18 : decode cX9_comeDown 18 = .ok (.aload_n 0, 1) := by decide +kernel
theorem dX9_comeDown_19 : decode cX9_comeDown 19 = .ok (.getfield 40, 3) := by decide +kernel
theorem dX9_comeDown_22 : decode cX9_comeDown 22 = .ok (.iload_n 1, 1) := by decide +kernel
theorem dX9_comeDown_23 : decode cX9_comeDown 23 = .ok (.iload_n 3, 1) := by decide +kernel
theorem dX9_comeDown_24 : decode cX9_comeDown 24 = .ok (.iadd, 1) := by decide +kernel
theorem dX9_comeDown_25 : decode cX9_comeDown 25 = .ok (.iaload, 1) := by decide +kernel
theorem dX9_comeDown_26 : decode cX9_comeDown 26 = .ok (.istore 4, 2) := by decide +kernel
theorem dX9_comeDown_28 : decode cX9_comeDown 28 = .ok (.iload 4, 2) := by decide +kernel
theorem dX9_comeDown_30 : decode cX9_comeDown 30 = .ok (.bipush 100, 2) := by decide +kernel
theorem dX9_comeDown_32 : decode cX9_comeDown 32 = .ok (.if_icmp .ge 44, 3) := by decide +kernel
theorem dX9_comeDown_35 : decode cX9_comeDown 35 = .ok (.aload_n 0, 1) := by decide +kernel
theorem dX9_comeDown_36 : decode cX9_comeDown 36 = .ok (.getfield 31, 3) := by decide +kernel
theorem dX9_comeDown_39 : decode cX9_comeDown 39 = .ok (.iload 4, 2) := by decide +kernel
theorem dX9_comeDown_41 : decode cX9_comeDown 41 = .ok (.iaload, 1) := by decide +kernel
theorem dX9_comeDown_42 : decode cX9_comeDown 42 = .ok (.bipush (-9), 2) := by decide +kernel
theorem dX9_comeDown_44 : decode cX9_comeDown 44 = .ok (.if_icmp .eq 32, 3) := by decide +kernel
theorem dX9_comeDown_47 : decode cX9_comeDown 47 = .ok (.aload_n 0, 1) := by decide +kernel
theorem dX9_comeDown_48 : decode cX9_comeDown 48 = .ok (.iload_n 1, 1) := by decide +kernel
theorem dX9_comeDown_49 : decode cX9_comeDown 49 = .ok (.aload_n 0, 1) := by decide +kernel
theorem dX9_comeDown_50 : decode cX9_comeDown 50 = .ok (.getfield 31, 3) := by decide +kernel
theorem dX9_comeDown_53 : decode cX9_comeDown 53 = .ok (.iload 4, 2) := by decide +kernel
theorem dX9_comeDown_55 : decode cX9_comeDown 55 = .ok (.iaload, 1) := by decide +kernel
theorem dX9_comeDown_56 : decode cX9_comeDown 56 = .ok (.invokevirtual 134, 3) := by decide +kernel
theorem dX9_comeDown_59 : decode cX9_comeDown 59 = .ok (.bipush (-9), 2) := by decide +kernel
theorem dX9_comeDown_61 : decode cX9_comeDown 61 = .ok (.if_icmp .ne 15, 3) := by decide +kernel
theorem dX9_comeDown_64 : decode cX9_comeDown 64 = .ok (.aload_n 0, 1) := by decide +kernel
theorem dX9_comeDown_65 : decode cX9_comeDown 65 = .ok (.getfield 40, 3) := by decide +kernel
theorem dX9_comeDown_68 : decode cX9_comeDown 68 = .ok (.iload_n 1, 1) := by decide +kernel
theorem dX9_comeDown_69 : decode cX9_comeDown 69 = .ok (.iload_n 3, 1) := by decide +kernel
theorem dX9_comeDown_70 : decode cX9_comeDown 70 = .ok (.iadd, 1) := by decide +kernel
theorem dX9_comeDown_71 : decode cX9_comeDown 71 = .ok (.bipush 100, 2) := by decide +kernel
theorem dX9_comeDown_73 : decode cX9_comeDown 73 = .ok (.iastore, 1) := by decide +kernel
theorem dX9_comeDown_74 : decode cX9_comeDown 74 = .ok (.iconst 1, 1) := by decide +kernel
theorem dX9_comeDown_75 : decode cX9_comeDown 75 = .ok (.istore_n 2, 1) := by decide +kernel
theorem dX9_comeDown_76 : decode cX9_comeDown 76 = .ok (.iinc 3 1, 3) := by decide +kernel
theorem dX9_comeDown_79 : decode cX9_comeDown 79 = .ok (.goto (-69), 3) := by decide +kernel
theorem dX9_comeDown_82 : decode cX9_comeDown 82 = .ok (.goto (-80), 3) := by decide +kernel
theorem dX9_comeDown_85 : decode cX9_comeDown 85 = .ok (.return_, 1) := by decide +kernel
set_option maxRecDepth 20000 in
theorem ggX9_gnaw_X9_comeDown : GoodIn wsX9_gnaw wsX9_comeDown := goodIn_r _ [8, 1, 2, 9, 10, 11, 12, 7, 13, 14, 15, 16, 17, 18, 19, 20, 21, 22, 23, 24, 25, 26, 27, 28, 29, 30, 31, 32, 33, 34, 35, 36, 37, 38, 39, 40, 41, 42, 43, 44, 45, 46, 47, 48] (by decide +kernel) (by decide +kernel)
set_option maxRecDepth 20000 in
theorem gX9_gnaw_X9_comeDown : GoodIn wsX9_gnaw (wsV RX9 152 RX9 yX9_comeDown wsX9_comeDown) := goodIn_app (goodIn_of _ (by decide +kernel)) ggX9_gnaw_X9_comeDown
theorem dX9_gnaw_0 : decode cX9_gnaw 0 = .ok (.iconst 0, 1) := by decide +kernel
theorem dX9_gnaw_1 : decode cX9_gnaw 1 = .ok (.istore_n 2, 1) := by decide +kernel
theorem dX9_gnaw_2 : decode cX9_gnaw 2 = .ok (.iload_n 2, 1) := by decide +kernel
theorem dX9_gnaw_3 : decode cX9_gnaw 3 = .ok (.aload_n 0, 1) := by decide +kernel
theorem dX9_gnaw_4 : decode cX9_gnaw 4 = .ok (.getfield 114, 3) := by decide +kernel
theorem dX9_gnaw_7 : decode cX9_gnaw 7 = .ok (.if_icmp .ge 80, 3) := by decide +kernel
theorem dX9_gnaw_10 : decode cX9_gnaw 10 = .ok (.aload_n 0, 1) := by decide +kernel
theorem dX9_gnaw_11 : decode cX9_gnaw 11 = .ok (.getfield 40, 3) := by decide +kernel
theorem dX9_gnaw_14 : decode cX9_gnaw 14 = .ok (.iload_n 1, 1) := by decide +kernel
theorem dX9_gnaw_15 : decode cX9_gnaw 15 = .ok (.iload_n 2, 1) := by decide +kernel
theorem dX9_gnaw_16 : decode cX9_gnaw 16 = .ok (.iadd, 1) := by decide +kernel
theorem dX9_gnaw_17 : decode cX9_gnaw 17 = .ok (.iaload, 1) := by decide +kernel
theorem dX9_gnaw_18 : decode cX9_gnaw 18 = .ok (.bipush 100, 2) := by decide +kernel
theorem dX9_gnaw_20 : decode cX9_gnaw 20 = .ok (.if_icmp .ge 61, 3) := by decide +kernel
theorem dX9_gnaw_23 : decode cX9_gnaw 23 = .ok (.aload_n 0, 1) := by decide +kernel
theorem dX9_gnaw_24 : decode cX9_gnaw 24 = .ok (.getfield 46, 3) := by decide +kernel
theorem dX9_gnaw_27 : decode cX9_gnaw 27 = .ok (.iload_n 1, 1) := by decide +kernel
theorem dX9_gnaw_28 : decode cX9_gnaw 28 = .ok (.iload_n 2, 1) := by decide +kernel
theorem dX9_gnaw_29 : decode cX9_gnaw 29 = .ok (.iadd, 1) := by decide +kernel
theorem dX9_gnaw_30 : decode cX9_gnaw 30 = .ok (.iaload, 1) := by decide +kernel
theorem dX9_gnaw_31 : decode cX9_gnaw 31 = .ok (.ifCond .le 50, 3) := by decide +kernel
theorem dX9_gnaw_34 : decode cX9_gnaw 34 = .ok (.aload_n 0, 1) := by decide +kernel
theorem dX9_gnaw_35 : decode cX9_gnaw 35 = .ok (.getfield 46, 3) := by decide +kernel
theorem dX9_gnaw_38 : decode cX9_gnaw 38 = .ok (.iload_n 1, 1) := by decide +kernel
theorem dX9_gnaw_39 : decode cX9_gnaw 39 = .ok (.iload_n 2, 1) := by decide +kernel
theorem dX9_gnaw_40 : decode cX9_gnaw 40 = .ok (.iadd, 1) := by decide +kernel
theorem dX9_gnaw_41 : decode cX9_gnaw 41 = .ok (.dup2, 1) := by decide +kernel
theorem dX9_gnaw_42 : decode cX9_gnaw 42 = .ok (.iaload, 1) := by decide +kernel
theorem dX9_gnaw_43 : decode cX9_gnaw 43 = .ok (.iconst 1, 1) := by decide +kernel
theorem dX9_gnaw_44 : decode cX9_gnaw 44 = .ok (.iadd, 1) := by decide +kernel
theorem dX9_gnaw_45 : decode cX9_gnaw 45 = .ok (.iastore, 1) := by decide +kernel
theorem dX9_gnaw_46 : decode cX9_gnaw 46 = .ok (.aload_n 0, 1) := by decide +kernel
theorem dX9_gnaw_47 : decode cX9_gnaw 47 = .ok (.getfield 40, 3) := by decide +kernel
theorem dX9_gnaw_50 : decode cX9_gnaw 50 = .ok (.iload_n 1, 1) := by decide +kernel
theorem dX9_gnaw_51 : decode cX9_gnaw 51 = .ok (.iload_n 2, 1) := by decide +kernel
theorem dX9_gnaw_52 : decode cX9_gnaw 52 = .ok (.iadd, 1) := by decide +kernel
theorem dX9_gnaw_53 : decode cX9_gnaw 53 = .ok (.aload_n 0, 1) := by decide +kernel
theorem dX9_gnaw_54 : decode cX9_gnaw 54 = .ok (.getfield 46, 3) := by decide +kernel
theorem dX9_gnaw_57 : decode cX9_gnaw 57 = .ok (.iload_n 1, 1) := by decide +kernel
theorem dX9_gnaw_58 : decode cX9_gnaw 58 = .ok (.iload_n 2, 1) := by decide +kernel
theorem dX9_gnaw_59 : decode cX9_gnaw 59 = .ok (.iadd, 1) := by decide +kernel
theorem dX9_gnaw_60 : decode cX9_gnaw 60 = .ok (.iaload, 1) := by decide +kernel
theorem dX9_gnaw_61 : decode cX9_gnaw 61 = .ok (.bipush 10, 2) := by decide +kernel
theorem dX9_gnaw_63 : decode cX9_gnaw 63 = .ok (.if_icmp .ne 9, 3) := by decide +kernel
theorem dX9_gnaw_66 : decode cX9_gnaw 66 = .ok (.sipush 200, 3) := by decide +kernel
theorem dX9_gnaw_69 : decode cX9_gnaw 69 = .ok (.goto 11, 3) := by decide +kernel
theorem dX9_gnaw_72 : decode cX9_gnaw 72 = .ok (.aload_n 0, 1) := by decide +kernel
theorem dX9_gnaw_73 : decode cX9_gnaw 73 = .ok (.getfield 40, 3) := by decide +kernel
theorem dX9_gnaw_76 : decode cX9_gnaw 76 = .ok (.iload_n 1, 1) := by decide +kernel
theorem dX9_gnaw_77 : decode cX9_gnaw 77 = .ok (.iload_n 2, 1) := by decide +kernel
theorem dX9_gnaw_78 : decode cX9_gnaw 78 = .ok (.iadd, 1) := by decide +kernel
theorem dX9_gnaw_79 : decode cX9_gnaw 79 = .ok (.iaload, 1) := by decide +kernel
theorem dX9_gnaw_80 : decode cX9_gnaw 80 = .ok (.iastore, 1) := by decide +kernel
theorem dX9_gnaw_81 : decode cX9_gnaw 81 = .ok (.iinc 2 1, 3) := by decide +kernel
theorem dX9_gnaw_84 : decode cX9_gnaw 84 = .ok (.goto (-82), 3) := by decide +kernel
theorem dX9_gnaw_87 : decode cX9_gnaw 87 = .ok (.aload_n 0, 1) := by decide +kernel
theorem dX9_gnaw_88 : decode cX9_gnaw 88 = .ok (.iload_n 1, 1) := by decide +kernel
theorem dX9_gnaw_89 : decode cX9_gnaw 89 = .ok (.invokevirtual 152, 3) := by decide +kernel
theorem dX9_gnaw_92 : decode cX9_gnaw 92 = .ok (.return_, 1) := by decide +kernel
theorem dX9_keepAct_0 : decode cX9_keepAct 0 = .ok (.bipush 32, 2) := by decide +kernel
theorem dX9_keepAct_2 : decode cX9_keepAct 2 = .ok (.aload_n 0, 1) := by decide +kernel
theorem dX9_keepAct_3 : decode cX9_keepAct 3 = .ok (.getfield 156, 3) := by decide +kernel
theorem dX9_keepAct_6 : decode cX9_keepAct 6 = .ok (.imul, 1) := by decide +kernel
theorem dX9_keepAct_7 : decode cX9_keepAct 7 = .ok (.istore_n 1, 1) := by decide +kernel
theorem dX9_keepAct_8 : decode cX9_keepAct 8 = .ok (.iconst 0, 1) := by decide +kernel
theorem dX9_keepAct_9 : decode cX9_keepAct 9 = .ok (.istore_n 2, 1) := by decide +kernel
theorem dX9_keepAct_10 : decode cX9_keepAct 10 = .ok (.iload_n 2, 1) := by decide +kernel
theorem dX9_keepAct_11 : decode cX9_keepAct 11 = .ok (.bipush 10, 2) := by decide +kernel
theorem dX9_keepAct_13 : decode cX9_keepAct 13 = .ok (.if_icmp .ge 57, 3) := by decide +kernel
theorem dX9_keepAct_16 : decode cX9_keepAct 16 = .ok (.aload_n 0, 1) := by decide +kernel
theorem dX9_keepAct_17 : decode cX9_keepAct 17 = .ok (.getfield 49, 3) := by decide +kernel
theorem dX9_keepAct_20 : decode cX9_keepAct 20 = .ok (.iload_n 1, 1) := by decide +kernel
theorem dX9_keepAct_21 : decode cX9_keepAct 21 = .ok (.iload_n 2, 1) := by decide +kernel
theorem dX9_keepAct_22 : decode cX9_keepAct 22 = .ok (.iadd, 1) := by decide +kernel
theorem dX9_keepAct_23 : decode cX9_keepAct 23 = .ok (.aload_n 0, 1) := by decide +kernel
theorem dX9_keepAct_24 : decode cX9_keepAct 24 = .ok (.getfield 40, 3) := by decide +kernel
theorem dX9_keepAct_27 : decode cX9_keepAct 27 = .ok (.iload_n 2, 1) := by decide +kernel
theorem dX9_keepAct_28 : decode cX9_keepAct 28 = .ok (.iaload, 1) := by decide +kernel
theorem dX9_keepAct_29 : decode cX9_keepAct 29 = .ok (.iastore, 1) := by decide +kernel
theorem dX9_keepAct_30 : decode cX9_keepAct 30 = .ok (.aload_n 0, 1) := by decide +kernel
theorem dX9_keepAct_31 : decode cX9_keepAct 31 = .ok (.getfield 49, 3) := by decide +kernel
theorem dX9_keepAct_34 : decode cX9_keepAct 34 = .ok (.iload_n 1, 1) := by decide +kernel
theorem dX9_keepAct_35 : decode cX9_keepAct 35 = .ok (.bipush 10, 2) := by decide +kernel
theorem dX9_keepAct_37 : decode cX9_keepAct 37 = .ok (.iadd, 1) := by decide +kernel
theorem dX9_keepAct_38 : decode cX9_keepAct 38 = .ok (.iload_n 2, 1) := by decide +kernel
theorem dX9_keepAct_39 : decode cX9_keepAct 39 = .ok (.iadd, 1) := by decide +kernel
theorem dX9_keepAct_40 : decode cX9_keepAct 40 = .ok (.aload_n 0, 1) := by decide +kernel
theorem dX9_keepAct_41 : decode cX9_keepAct 41 = .ok (.getfield 43, 3) := by decide +kernel
theorem dX9_keepAct_44 : decode cX9_keepAct 44 = .ok (.iload_n 2, 1) := by decide +kernel
theorem dX9_keepAct_45 : decode cX9_keepAct 45 = .ok (.iaload, 1) := by decide +kernel
theorem dX9_keepAct_46 : decode cX9_keepAct 46 = .ok (.iastore, 1) := by decide +kernel
theorem dX9_keepAct_47 : decode cX9_keepAct 47 = .ok (.aload_n 0, 1) := by decide +kernel
theorem dX9_keepAct_48 : decode cX9_keepAct 48 = .ok (.getfield 49, 3) := by decide +kernel
theorem dX9_keepAct_51 : decode cX9_keepAct 51 = .ok (.iload_n 1, 1) := by decide +kernel
theorem dX9_keepAct_52 : decode cX9_keepAct 52 = .ok (.bipush 20, 2) := by decide +kernel
theorem dX9_keepAct_54 : decode cX9_keepAct 54 = .ok (.iadd, 1) := by decide +kernel
theorem dX9_keepAct_55 : decode cX9_keepAct 55 = .ok (.iload_n 2, 1) := by decide +kernel
theorem dX9_keepAct_56 : decode cX9_keepAct 56 = .ok (.iadd, 1) := by decide +kernel
theorem dX9_keepAct_57 : decode cX9_keepAct 57 = .ok (.aload_n 0, 1) := by decide +kernel
theorem dX9_keepAct_58 : decode cX9_keepAct 58 = .ok (.getfield 46, 3) := by decide +kernel
theorem dX9_keepAct_61 : decode cX9_keepAct 61 = .ok (.iload_n 2, 1) := by decide +kernel
theorem dX9_keepAct_62 : decode cX9_keepAct 62 = .ok (.iaload, 1) := by decide +kernel
theorem dX9_keepAct_63 : decode cX9_keepAct 63 = .ok (.iastore, 1) := by decide +kernel
theorem dX9_keepAct_64 : decode cX9_keepAct 64 = .ok (.iinc 2 1, 3) := by decide +kernel
theorem dX9_keepAct_67 : decode cX9_keepAct 67 = .ok (.goto (-57), 3) := by decide +kernel
theorem dX9_keepAct_70 : decode cX9_keepAct 70 = .ok (.aload_n 0, 1) := by decide +kernel
theorem dX9_keepAct_71 : decode cX9_keepAct 71 = .ok (.getfield 49, 3) := by decide +kernel
theorem dX9_keepAct_74 : decode cX9_keepAct 74 = .ok (.iload_n 1, 1) := by decide +kernel
theorem dX9_keepAct_75 : decode cX9_keepAct 75 = .ok (.bipush 30, 2) := by decide +kernel
theorem dX9_keepAct_77 : decode cX9_keepAct 77 = .ok (.iadd, 1) := by decide +kernel
theorem dX9_keepAct_78 : decode cX9_keepAct 78 = .ok (.aload_n 0, 1) := by decide +kernel
theorem dX9_keepAct_79 : decode cX9_keepAct 79 = .ok (.getfield 120, 3) := by decide +kernel
theorem dX9_keepAct_82 : decode cX9_keepAct 82 = .ok (.iastore, 1) := by decide +kernel
theorem dX9_keepAct_83 : decode cX9_keepAct 83 = .ok (.aload_n 0, 1) := by decide +kernel
theorem dX9_keepAct_84 : decode cX9_keepAct 84 = .ok (.getfield 49, 3) := by decide +kernel
theorem dX9_keepAct_87 : decode cX9_keepAct 87 = .ok (.iload_n 1, 1) := by decide +kernel
theorem dX9_keepAct_88 : decode cX9_keepAct 88 = .ok (.bipush 31, 2) := by decide +kernel
theorem dX9_keepAct_90 : decode cX9_keepAct 90 = .ok (.iadd, 1) := by decide +kernel
theorem dX9_keepAct_91 : decode cX9_keepAct 91 = .ok (.aload_n 0, 1) := by decide +kernel
theorem dX9_keepAct_92 : decode cX9_keepAct 92 = .ok (.getfield 123, 3) := by decide +kernel
theorem dX9_keepAct_95 : decode cX9_keepAct 95 = .ok (.ifCond .eq 7, 3) := by decide +kernel
theorem dX9_keepAct_98 : decode cX9_keepAct 98 = .ok (.iconst 1, 1) := by decide +kernel
theorem dX9_keepAct_99 : decode cX9_keepAct 99 = .ok (.goto 4, 3) := by decide +kernel
theorem dX9_keepAct_102 : decode cX9_keepAct 102 = .ok (.iconst 0, 1) := by decide +kernel
theorem dX9_keepAct_103 : decode cX9_keepAct 103 = .ok (.iastore, 1) := by decide +kernel
theorem dX9_keepAct_104 : decode cX9_keepAct 104 = .ok (.aload_n 0, 1) := by decide +kernel
theorem dX9_keepAct_105 : decode cX9_keepAct 105 = .ok (.aload_n 0, 1) := by decide +kernel
theorem dX9_keepAct_106 : decode cX9_keepAct 106 = .ok (.getfield 156, 3) := by decide +kernel
theorem dX9_keepAct_109 : decode cX9_keepAct 109 = .ok (.iconst 1, 1) := by decide +kernel
theorem dX9_keepAct_110 : decode cX9_keepAct 110 = .ok (.iadd, 1) := by decide +kernel
theorem dX9_keepAct_111 : decode cX9_keepAct 111 = .ok (.bipush 24, 2) := by decide +kernel
theorem dX9_keepAct_113 : decode cX9_keepAct 113 = .ok (.irem, 1) := by decide +kernel
theorem dX9_keepAct_114 : decode cX9_keepAct 114 = .ok (.putfield 156, 3) := by decide +kernel
theorem dX9_keepAct_117 : decode cX9_keepAct 117 = .ok (.aload_n 0, 1) := by decide +kernel
theorem dX9_keepAct_118 : decode cX9_keepAct 118 = .ok (.aload_n 0, 1) := by decide +kernel
theorem dX9_keepAct_119 : decode cX9_keepAct 119 = .ok (.getfield 127, 3) := by decide +kernel
theorem dX9_keepAct_122 : decode cX9_keepAct 122 = .ok (.bipush 24, 2) := by decide +kernel
theorem dX9_keepAct_124 : decode cX9_keepAct 124 = .ok (.if_icmp .ge 12, 3) := by decide +kernel
theorem dX9_keepAct_127 : decode cX9_keepAct 127 = .ok (.aload_n 0, 1) := by decide +kernel
theorem dX9_keepAct_128 : decode cX9_keepAct 128 = .ok (.getfield 127, 3) := by decide +kernel
theorem dX9_keepAct_131 : decode cX9_keepAct 131 = .ok (.iconst 1, 1) := by decide +kernel
theorem dX9_keepAct_132 : decode cX9_keepAct 132 = .ok (.iadd, 1) := by decide +kernel
theorem dX9_keepAct_133 : decode cX9_keepAct 133 = .ok (.goto 5, 3) := by decide +kernel
theorem dX9_keepAct_136 : decode cX9_keepAct 136 = .ok (.bipush 24, 2) := by decide +kernel
theorem dX9_keepAct_138 : decode cX9_keepAct 138 = .ok (.putfield 127, 3) := by decide +kernel
theorem dX9_keepAct_141 : decode cX9_keepAct 141 = .ok (.return_, 1) := by decide +kernel
set_option maxRecDepth 20000 in
theorem ggX9_take_X9_isPlace : GoodIn wsX9_take wsX9_isPlace := goodIn_r _ [7, 8, 9, 10, 6, 11, 35, 36, 37, 38, 39, 40, 41, 42, 43, 44, 45, 46, 47, 48, 49, 50, 51, 52, 53, 54, 55, 56, 57, 58, 59, 60, 61, 62, 63, 64, 65, 66, 67, 68, 69] (by decide +kernel) (by decide +kernel)
set_option maxRecDepth 20000 in
theorem gX9_take_X9_isPlace : GoodIn wsX9_take (wsV RX9 130 RX9 yX9_isPlace wsX9_isPlace) := goodIn_app (goodIn_of _ (by decide +kernel)) ggX9_take_X9_isPlace
set_option maxRecDepth 20000 in
theorem ggX9_take_X9_canTake : GoodIn wsX9_take wsX9_canTake := goodIn_r _ [15, 16, 17, 18, 6, 19, 8, 2, 20, 21, 22, 23, 24, 35, 36, 37, 38, 39, 40, 41, 42, 43, 44, 45, 46, 47, 48, 49, 50, 51, 52, 53, 54, 55, 56, 57, 58, 59, 60, 61, 62, 63, 64, 65, 66, 67, 68, 69] (by decide +kernel) (by decide +kernel)
set_option maxRecDepth 20000 in
theorem gX9_take_X9_canTake : GoodIn wsX9_take (wsV RX9 141 RX9 yX9_canTake wsX9_canTake) := goodIn_app (goodIn_of _ (by decide +kernel)) ggX9_take_X9_canTake
set_option maxRecDepth 20000 in
theorem ggX9_take_X9_keepAct : GoodIn wsX9_take wsX9_keepAct := goodIn_r _ [28, 29, 30, 2, 31, 32, 33, 1, 34, 35, 36, 37, 38, 39, 40, 41, 42, 43, 44, 45, 46, 47, 48, 49, 50, 51, 52, 53, 54, 55, 56, 57, 58, 59, 60, 61, 62, 63, 64, 65, 66, 67, 68, 69] (by decide +kernel) (by decide +kernel)
set_option maxRecDepth 20000 in
theorem gX9_take_X9_keepAct : GoodIn wsX9_take (wsV RX9 159 RX9 yX9_keepAct wsX9_keepAct) := goodIn_app (goodIn_of _ (by decide +kernel)) ggX9_take_X9_keepAct
set_option maxRecDepth 20000 in
theorem ggX9_take_X9_inside : GoodIn wsX9_take wsX9_inside := goodIn_r _ [19, 8, 2, 35, 36, 37, 38, 39, 40, 41, 42, 43, 44, 45, 46, 47, 48, 49, 50, 51, 52, 53, 54, 55, 56, 57, 58, 59, 60, 61, 62, 63, 64, 65, 66, 67, 68, 69] (by decide +kernel) (by decide +kernel)
set_option maxRecDepth 20000 in
theorem gX9_take_X9_inside : GoodIn wsX9_take (wsV RX9 134 RX9 yX9_inside wsX9_inside) := goodIn_app (goodIn_of _ (by decide +kernel)) ggX9_take_X9_inside
theorem dX9_take_0 : decode cX9_take 0 = .ok (.aload_n 0, 1) := by decide +kernel
theorem dX9_take_1 : decode cX9_take 1 = .ok (.iload_n 1, 1) := by decide +kernel
theorem dX9_take_2 : decode cX9_take 2 = .ok (.invokevirtual 130, 3) := by decide +kernel
theorem dX9_take_5 : decode cX9_take 5 = .ok (.ifCond .ne 5, 3) := by decide +kernel
theorem dX9_take_8 : decode cX9_take 8 = .ok (.iconst (-1), 1) := by decide +kernel
theorem dX9_take_9 : decode cX9_take 9 = .ok (.ireturn, 1) := by decide +kernel
theorem dX9_take_10 : decode cX9_take 10 = .ok (.aload_n 0, 1) := by decide +kernel
theorem dX9_take_11 : decode cX9_take 11 = .ok (.getfield 123, 3) := by decide +kernel
theorem dX9_take_14 : decode cX9_take 14 = .ok (.ifCond .ne 12, 3) := by decide +kernel
theorem dX9_take_17 : decode cX9_take 17 = .ok (.aload_n 0, 1) := by decide +kernel
theorem dX9_take_18 : decode cX9_take 18 = .ok (.iconst 0, 1) := by decide +kernel
theorem dX9_take_19 : decode cX9_take 19 = .ok (.iload_n 1, 1) := by decide +kernel
theorem dX9_take_20 : decode cX9_take 20 = .ok (.invokevirtual 141, 3) := by decide +kernel
theorem dX9_take_23 : decode cX9_take 23 = .ok (.ifCond .ne 6, 3) := by decide +kernel
theorem dX9_take_26 : decode cX9_take 26 = .ok (.bipush (-3), 2) := by decide +kernel
theorem dX9_take_28 : decode cX9_take 28 = .ok (.ireturn, 1) := by decide +kernel
theorem dX9_take_29 : decode cX9_take 29 = .ok (.aload_n 0, 1) := by decide +kernel
theorem dX9_take_30 : decode cX9_take 30 = .ok (.invokevirtual 159, 3) := by decide +kernel
theorem dX9_take_33 : decode cX9_take 33 = .ok (.aload_n 0, 1) := by decide +kernel
theorem dX9_take_34 : decode cX9_take 34 = .ok (.iconst 0, 1) := by decide +kernel
theorem dX9_take_35 : decode cX9_take 35 = .ok (.iload_n 1, 1) := by decide +kernel
theorem dX9_take_36 : decode cX9_take 36 = .ok (.invokevirtual 134, 3) := by decide +kernel
theorem dX9_take_39 : decode cX9_take 39 = .ok (.istore_n 2, 1) := by decide +kernel
theorem dX9_take_40 : decode cX9_take 40 = .ok (.aload_n 0, 1) := by decide +kernel
theorem dX9_take_41 : decode cX9_take 41 = .ok (.getfield 40, 3) := by decide +kernel
theorem dX9_take_44 : decode cX9_take 44 = .ok (.iload_n 2, 1) := by decide +kernel
theorem dX9_take_45 : decode cX9_take 45 = .ok (.bipush 100, 2) := by decide +kernel
theorem dX9_take_47 : decode cX9_take 47 = .ok (.iastore, 1) := by decide +kernel
theorem dX9_take_48 : decode cX9_take 48 = .ok (.iload_n 2, 1) := by decide +kernel
theorem dX9_take_49 : decode cX9_take 49 = .ok (.ireturn, 1) := by decide +kernel
set_option maxRecDepth 20000 in
theorem ggX9_put_X9_isPlace : GoodIn wsX9_put wsX9_isPlace := goodIn_r _ [9, 10, 11, 12, 8, 13, 32, 33, 34, 35, 36, 37, 38, 39, 40, 41, 42, 43, 44, 45, 46, 47, 48, 49, 50, 51, 52, 53, 54, 55, 56, 57, 58, 59, 60, 61, 62, 63, 64, 65, 66] (by decide +kernel) (by decide +kernel)
set_option maxRecDepth 20000 in
theorem gX9_put_X9_isPlace : GoodIn wsX9_put (wsV RX9 130 RX9 yX9_isPlace wsX9_isPlace) := goodIn_app (goodIn_of _ (by decide +kernel)) ggX9_put_X9_isPlace
set_option maxRecDepth 20000 in
theorem ggX9_put_X9_canPut : GoodIn wsX9_put wsX9_canPut := goodIn_r _ [17, 2, 3, 4, 18, 19, 20, 21, 8, 22, 10, 32, 33, 34, 35, 36, 37, 38, 39, 40, 41, 42, 43, 44, 45, 46, 47, 48, 49, 50, 51, 52, 53, 54, 55, 56, 57, 58, 59, 60, 61, 62, 63, 64, 65, 66] (by decide +kernel) (by decide +kernel)
set_option maxRecDepth 20000 in
theorem gX9_put_X9_canPut : GoodIn wsX9_put (wsV RX9 144 RX9 yX9_canPut wsX9_canPut) := goodIn_app (goodIn_of _ (by decide +kernel)) ggX9_put_X9_canPut
set_option maxRecDepth 20000 in
theorem ggX9_put_X9_keepAct : GoodIn wsX9_put wsX9_keepAct := goodIn_r _ [26, 27, 28, 2, 3, 29, 30, 1, 31, 32, 33, 34, 35, 36, 37, 38, 39, 40, 41, 42, 43, 44, 45, 46, 47, 48, 49, 50, 51, 52, 53, 54, 55, 56, 57, 58, 59, 60, 61, 62, 63, 64, 65, 66] (by decide +kernel) (by decide +kernel)
set_option maxRecDepth 20000 in
theorem gX9_put_X9_keepAct : GoodIn wsX9_put (wsV RX9 159 RX9 yX9_keepAct wsX9_keepAct) := goodIn_app (goodIn_of _ (by decide +kernel)) ggX9_put_X9_keepAct
theorem dX9_put_0 : decode cX9_put 0 = .ok (.aload_n 0, 1) := by decide +kernel
theorem dX9_put_1 : decode cX9_put 1 = .ok (.iload_n 1, 1) := by decide +kernel
theorem dX9_put_2 : decode cX9_put 2 = .ok (.invokevirtual 130, 3) := by decide +kernel
theorem dX9_put_5 : decode cX9_put 5 = .ok (.ifCond .eq 11, 3) := by decide +kernel
theorem dX9_put_8 : decode cX9_put 8 = .ok (.aload_n 0, 1) := by decide +kernel
theorem dX9_put_9 : decode cX9_put 9 = .ok (.iload_n 2, 1) := by decide +kernel
theorem dX9_put_10 : decode cX9_put 10 = .ok (.invokevirtual 130, 3) := by decide +kernel
theorem dX9_put_13 : decode cX9_put 13 = .ok (.ifCond .ne 5, 3) := by decide +kernel
theorem dX9_put_16 : decode cX9_put 16 = .ok (.iconst (-1), 1) := by decide +kernel
theorem dX9_put_17 : decode cX9_put 17 = .ok (.ireturn, 1) := by decide +kernel
theorem dX9_put_18 : decode cX9_put 18 = .ok (.aload_n 0, 1) := by decide +kernel
theorem dX9_put_19 : decode cX9_put 19 = .ok (.getfield 123, 3) := by decide +kernel
theorem dX9_put_22 : decode cX9_put 22 = .ok (.ifCond .ne 13, 3) := by decide +kernel
theorem dX9_put_25 : decode cX9_put 25 = .ok (.aload_n 0, 1) := by decide +kernel
theorem dX9_put_26 : decode cX9_put 26 = .ok (.iconst 0, 1) := by decide +kernel
theorem dX9_put_27 : decode cX9_put 27 = .ok (.iload_n 1, 1) := by decide +kernel
theorem dX9_put_28 : decode cX9_put 28 = .ok (.iload_n 2, 1) := by decide +kernel
theorem dX9_put_29 : decode cX9_put 29 = .ok (.invokevirtual 144, 3) := by decide +kernel
theorem dX9_put_32 : decode cX9_put 32 = .ok (.ifCond .ne 6, 3) := by decide +kernel
theorem dX9_put_35 : decode cX9_put 35 = .ok (.bipush (-3), 2) := by decide +kernel
theorem dX9_put_37 : decode cX9_put 37 = .ok (.ireturn, 1) := by decide +kernel
theorem dX9_put_38 : decode cX9_put 38 = .ok (.aload_n 0, 1) := by decide +kernel
theorem dX9_put_39 : decode cX9_put 39 = .ok (.invokevirtual 159, 3) := by decide +kernel
theorem dX9_put_42 : decode cX9_put 42 = .ok (.aload_n 0, 1) := by decide +kernel
theorem dX9_put_43 : decode cX9_put 43 = .ok (.getfield 40, 3) := by decide +kernel
theorem dX9_put_46 : decode cX9_put 46 = .ok (.iload_n 1, 1) := by decide +kernel
theorem dX9_put_47 : decode cX9_put 47 = .ok (.iload_n 2, 1) := by decide +kernel
theorem dX9_put_48 : decode cX9_put 48 = .ok (.iastore, 1) := by decide +kernel
theorem dX9_put_49 : decode cX9_put 49 = .ok (.aload_n 0, 1) := by decide +kernel
theorem dX9_put_50 : decode cX9_put 50 = .ok (.getfield 43, 3) := by decide +kernel
theorem dX9_put_53 : decode cX9_put 53 = .ok (.iload_n 1, 1) := by decide +kernel
theorem dX9_put_54 : decode cX9_put 54 = .ok (.aload_n 0, 1) := by decide +kernel
theorem dX9_put_55 : decode cX9_put 55 = .ok (.getfield 25, 3) := by decide +kernel
theorem dX9_put_58 : decode cX9_put 58 = .ok (.iload_n 2, 1) := by decide +kernel
theorem dX9_put_59 : decode cX9_put 59 = .ok (.iaload, 1) := by decide +kernel
theorem dX9_put_60 : decode cX9_put 60 = .ok (.iastore, 1) := by decide +kernel
theorem dX9_put_61 : decode cX9_put 61 = .ok (.aload_n 0, 1) := by decide +kernel
theorem dX9_put_62 : decode cX9_put 62 = .ok (.getfield 43, 3) := by decide +kernel
theorem dX9_put_65 : decode cX9_put 65 = .ok (.iload_n 1, 1) := by decide +kernel
theorem dX9_put_66 : decode cX9_put 66 = .ok (.iaload, 1) := by decide +kernel
theorem dX9_put_67 : decode cX9_put 67 = .ok (.ireturn, 1) := by decide +kernel
set_option maxRecDepth 20000 in
theorem ggX9_move_X9_isPlace : GoodIn wsX9_move wsX9_isPlace := goodIn_r _ [7, 8, 9, 10, 6, 11, 48, 49, 50, 51, 52, 53, 54, 55, 56, 57, 58, 59, 60, 61, 62, 63, 64, 65, 66, 67, 68, 69, 70, 71, 72, 73, 74, 75, 76, 77, 78, 79, 80, 81, 82] (by decide +kernel) (by decide +kernel)
set_option maxRecDepth 20000 in
theorem gX9_move_X9_isPlace : GoodIn wsX9_move (wsV RX9 130 RX9 yX9_isPlace wsX9_isPlace) := goodIn_app (goodIn_of _ (by decide +kernel)) ggX9_move_X9_isPlace
set_option maxRecDepth 20000 in
theorem ggX9_move_X9_copy : GoodIn wsX9_move wsX9_copy := goodIn_r _ [15, 16, 2, 17, 48, 49, 50, 51, 52, 53, 54, 55, 56, 57, 58, 59, 60, 61, 62, 63, 64, 65, 66, 67, 68, 69, 70, 71, 72, 73, 74, 75, 76, 77, 78, 79, 80, 81, 82] (by decide +kernel) (by decide +kernel)
set_option maxRecDepth 20000 in
theorem gX9_move_X9_copy : GoodIn wsX9_move (wsV RX9 162 RX9 yX9_copy wsX9_copy) := goodIn_app (goodIn_of _ (by decide +kernel)) ggX9_move_X9_copy
set_option maxRecDepth 20000 in
theorem ggX9_move_X9_goes : GoodIn wsX9_move wsX9_goes := goodIn_r _ [21, 16, 2, 22, 23, 24, 25, 6, 26, 27, 28, 29, 30, 8, 31, 32, 33, 34, 35, 36, 37, 38, 39, 48, 49, 50, 51, 52, 53, 54, 55, 56, 57, 58, 59, 60, 61, 62, 63, 64, 65, 66, 67, 68, 69, 70, 71, 72, 73, 74, 75, 76, 77, 78, 79, 80, 81, 82] (by decide +kernel) (by decide +kernel)
set_option maxRecDepth 20000 in
theorem gX9_move_X9_goes : GoodIn wsX9_move (wsV RX9 166 RX9 yX9_goes wsX9_goes) := goodIn_app (goodIn_of _ (by decide +kernel)) ggX9_move_X9_goes
set_option maxRecDepth 20000 in
theorem ggX9_move_X9_keepAct : GoodIn wsX9_move wsX9_keepAct := goodIn_r _ [43, 44, 45, 16, 2, 17, 46, 1, 47, 48, 49, 50, 51, 52, 53, 54, 55, 56, 57, 58, 59, 60, 61, 62, 63, 64, 65, 66, 67, 68, 69, 70, 71, 72, 73, 74, 75, 76, 77, 78, 79, 80, 81, 82] (by decide +kernel) (by decide +kernel)
set_option maxRecDepth 20000 in
theorem gX9_move_X9_keepAct : GoodIn wsX9_move (wsV RX9 159 RX9 yX9_keepAct wsX9_keepAct) := goodIn_app (goodIn_of _ (by decide +kernel)) ggX9_move_X9_keepAct
theorem dX9_move_0 : decode cX9_move 0 = .ok (.aload_n 0, 1) := by decide +kernel
theorem dX9_move_1 : decode cX9_move 1 = .ok (.iload_n 1, 1) := by decide +kernel
theorem dX9_move_2 : decode cX9_move 2 = .ok (.invokevirtual 130, 3) := by decide +kernel
theorem dX9_move_5 : decode cX9_move 5 = .ok (.ifCond .eq 11, 3) := by decide +kernel
theorem dX9_move_8 : decode cX9_move 8 = .ok (.aload_n 0, 1) := by decide +kernel
theorem dX9_move_9 : decode cX9_move 9 = .ok (.iload_n 2, 1) := by decide +kernel
theorem dX9_move_10 : decode cX9_move 10 = .ok (.invokevirtual 130, 3) := by decide +kernel
theorem dX9_move_13 : decode cX9_move 13 = .ok (.ifCond .ne 5, 3) := by decide +kernel
theorem dX9_move_16 : decode cX9_move 16 = .ok (.iconst (-1), 1) := by decide +kernel
theorem dX9_move_17 : decode cX9_move 17 = .ok (.ireturn, 1) := by decide +kernel
theorem dX9_move_18 : decode cX9_move 18 = .ok (.aload_n 0, 1) := by decide +kernel
theorem dX9_move_19 : decode cX9_move 19 = .ok (.iconst 0, 1) := by decide +kernel
theorem dX9_move_20 : decode cX9_move 20 = .ok (.bipush 10, 2) := by decide +kernel
theorem dX9_move_22 : decode cX9_move 22 = .ok (.invokevirtual 162, 3) := by decide +kernel
theorem dX9_move_25 : decode cX9_move 25 = .ok (.aload_n 0, 1) := by decide +kernel
theorem dX9_move_26 : decode cX9_move 26 = .ok (.getfield 123, 3) := by decide +kernel
theorem dX9_move_29 : decode cX9_move 29 = .ok (.ifCond .ne 14, 3) := by decide +kernel
theorem dX9_move_32 : decode cX9_move 32 = .ok (.aload_n 0, 1) := by decide +kernel
theorem dX9_move_33 : decode cX9_move 33 = .ok (.bipush 10, 2) := by decide +kernel
theorem dX9_move_35 : decode cX9_move 35 = .ok (.iload_n 1, 1) := by decide +kernel
theorem dX9_move_36 : decode cX9_move 36 = .ok (.iload_n 2, 1) := by decide +kernel
theorem dX9_move_37 : decode cX9_move 37 = .ok (.invokevirtual 166, 3) := by decide +kernel
theorem dX9_move_40 : decode cX9_move 40 = .ok (.ifCond .ne 6, 3) := by decide +kernel
theorem dX9_move_43 : decode cX9_move 43 = .ok (.bipush (-3), 2) := by decide +kernel
theorem dX9_move_45 : decode cX9_move 45 = .ok (.ireturn, 1) := by decide +kernel
theorem dX9_move_46 : decode cX9_move 46 = .ok (.aload_n 0, 1) := by decide +kernel
theorem dX9_move_47 : decode cX9_move 47 = .ok (.invokevirtual 159, 3) := by decide +kernel
theorem dX9_move_50 : decode cX9_move 50 = .ok (.aload_n 0, 1) := by decide +kernel
theorem dX9_move_51 : decode cX9_move 51 = .ok (.bipush 10, 2) := by decide +kernel
theorem dX9_move_53 : decode cX9_move 53 = .ok (.iconst 0, 1) := by decide +kernel
theorem dX9_move_54 : decode cX9_move 54 = .ok (.invokevirtual 162, 3) := by decide +kernel
theorem dX9_move_57 : decode cX9_move 57 = .ok (.aload_n 0, 1) := by decide +kernel
theorem dX9_move_58 : decode cX9_move 58 = .ok (.getfield 43, 3) := by decide +kernel
theorem dX9_move_61 : decode cX9_move 61 = .ok (.iload_n 1, 1) := by decide +kernel
theorem dX9_move_62 : decode cX9_move 62 = .ok (.iaload, 1) := by decide +kernel
theorem dX9_move_63 : decode cX9_move 63 = .ok (.ireturn, 1) := by decide +kernel
set_option maxRecDepth 20000 in
theorem ggX9_watch_X9_keepAct : GoodIn wsX9_watch wsX9_keepAct := goodIn_r _ [9, 10, 11, 12, 13, 14, 2, 1, 15, 39, 40, 41, 42, 43, 44, 45, 46, 47, 48, 49, 50, 51, 52, 53, 54, 55, 56, 57, 58, 59, 60, 61, 62, 63, 64, 65, 66, 67, 68, 69, 70, 71, 72, 73] (by decide +kernel) (by decide +kernel)
set_option maxRecDepth 20000 in
theorem gX9_watch_X9_keepAct : GoodIn wsX9_watch (wsV RX9 159 RX9 yX9_keepAct wsX9_keepAct) := goodIn_app (goodIn_of _ (by decide +kernel)) ggX9_watch_X9_keepAct
set_option maxRecDepth 20000 in
theorem ggX9_watch_X9_leakOf : GoodIn wsX9_watch wsX9_leakOf := goodIn_r _ [19, 20, 21, 22, 23, 24, 8, 25, 26, 27, 28, 29, 12, 39, 40, 41, 42, 43, 44, 45, 46, 47, 48, 49, 50, 51, 52, 53, 54, 55, 56, 57, 58, 59, 60, 61, 62, 63, 64, 65, 66, 67, 68, 69, 70, 71, 72, 73] (by decide +kernel) (by decide +kernel)
set_option maxRecDepth 20000 in
theorem gX9_watch_X9_leakOf : GoodIn wsX9_watch (wsV RX9 169 RX9 yX9_leakOf wsX9_leakOf) := goodIn_app (goodIn_of _ (by decide +kernel)) ggX9_watch_X9_leakOf
set_option maxRecDepth 20000 in
theorem ggX9_watch_X9_gnaw : GoodIn wsX9_watch wsX9_gnaw := goodIn_r _ [33, 20, 12, 14, 34, 35, 36, 8, 37, 38, 26, 27, 28, 29, 39, 40, 41, 42, 43, 44, 45, 46, 47, 48, 49, 50, 51, 52, 53, 54, 55, 56, 57, 58, 59, 60, 61, 62, 63, 64, 65, 66, 67, 68, 69, 70, 71, 72, 73] (by decide +kernel) (by decide +kernel)
set_option maxRecDepth 20000 in
theorem gX9_watch_X9_gnaw : GoodIn wsX9_watch (wsV RX9 172 RX9 yX9_gnaw wsX9_gnaw) := goodIn_app (goodIn_of _ (by decide +kernel)) ggX9_watch_X9_gnaw
theorem dX9_watch_0 : decode cX9_watch 0 = .ok (.aload_n 0, 1) := by decide +kernel
theorem dX9_watch_1 : decode cX9_watch 1 = .ok (.getfield 123, 3) := by decide +kernel
theorem dX9_watch_4 : decode cX9_watch 4 = .ok (.ifCond .eq 6, 3) := by decide +kernel
theorem dX9_watch_7 : decode cX9_watch 7 = .ok (.bipush (-3), 2) := by decide +kernel
theorem dX9_watch_9 : decode cX9_watch 9 = .ok (.ireturn, 1) := by decide +kernel
theorem dX9_watch_10 : decode cX9_watch 10 = .ok (.aload_n 0, 1) := by decide +kernel
theorem dX9_watch_11 : decode cX9_watch 11 = .ok (.invokevirtual 159, 3) := by decide +kernel
theorem dX9_watch_14 : decode cX9_watch 14 = .ok (.aload_n 0, 1) := by decide +kernel
theorem dX9_watch_15 : decode cX9_watch 15 = .ok (.dup, 1) := by decide +kernel
theorem dX9_watch_16 : decode cX9_watch 16 = .ok (.getfield 120, 3) := by decide +kernel
theorem dX9_watch_19 : decode cX9_watch 19 = .ok (.aload_n 0, 1) := by decide +kernel
theorem dX9_watch_20 : decode cX9_watch 20 = .ok (.iconst 0, 1) := by decide +kernel
theorem dX9_watch_21 : decode cX9_watch 21 = .ok (.invokevirtual 169, 3) := by decide +kernel
theorem dX9_watch_24 : decode cX9_watch 24 = .ok (.aload_n 0, 1) := by decide +kernel
theorem dX9_watch_25 : decode cX9_watch 25 = .ok (.getfield 117, 3) := by decide +kernel
theorem dX9_watch_28 : decode cX9_watch 28 = .ok (.isub, 1) := by decide +kernel
theorem dX9_watch_29 : decode cX9_watch 29 = .ok (.iadd, 1) := by decide +kernel
theorem dX9_watch_30 : decode cX9_watch 30 = .ok (.putfield 120, 3) := by decide +kernel
theorem dX9_watch_33 : decode cX9_watch 33 = .ok (.aload_n 0, 1) := by decide +kernel
theorem dX9_watch_34 : decode cX9_watch 34 = .ok (.aload_n 0, 1) := by decide +kernel
theorem dX9_watch_35 : decode cX9_watch 35 = .ok (.getfield 120, 3) := by decide +kernel
theorem dX9_watch_38 : decode cX9_watch 38 = .ok (.ifCond .ge 7, 3) := by decide +kernel
theorem dX9_watch_41 : decode cX9_watch 41 = .ok (.iconst 0, 1) := by decide +kernel
theorem dX9_watch_42 : decode cX9_watch 42 = .ok (.goto 7, 3) := by decide +kernel
theorem dX9_watch_45 : decode cX9_watch 45 = .ok (.aload_n 0, 1) := by decide +kernel
theorem dX9_watch_46 : decode cX9_watch 46 = .ok (.getfield 120, 3) := by decide +kernel
theorem dX9_watch_49 : decode cX9_watch 49 = .ok (.putfield 120, 3) := by decide +kernel
theorem dX9_watch_52 : decode cX9_watch 52 = .ok (.aload_n 0, 1) := by decide +kernel
theorem dX9_watch_53 : decode cX9_watch 53 = .ok (.getfield 120, 3) := by decide +kernel
theorem dX9_watch_56 : decode cX9_watch 56 = .ok (.aload_n 0, 1) := by decide +kernel
theorem dX9_watch_57 : decode cX9_watch 57 = .ok (.getfield 72, 3) := by decide +kernel
theorem dX9_watch_60 : decode cX9_watch 60 = .ok (.if_icmp .le 11, 3) := by decide +kernel
theorem dX9_watch_63 : decode cX9_watch 63 = .ok (.aload_n 0, 1) := by decide +kernel
theorem dX9_watch_64 : decode cX9_watch 64 = .ok (.iconst 1, 1) := by decide +kernel
theorem dX9_watch_65 : decode cX9_watch 65 = .ok (.putfield 123, 3) := by decide +kernel
theorem dX9_watch_68 : decode cX9_watch 68 = .ok (.goto 8, 3) := by decide +kernel
theorem dX9_watch_71 : decode cX9_watch 71 = .ok (.aload_n 0, 1) := by decide +kernel
theorem dX9_watch_72 : decode cX9_watch 72 = .ok (.iconst 0, 1) := by decide +kernel
theorem dX9_watch_73 : decode cX9_watch 73 = .ok (.invokevirtual 172, 3) := by decide +kernel
theorem dX9_watch_76 : decode cX9_watch 76 = .ok (.aload_n 0, 1) := by decide +kernel
theorem dX9_watch_77 : decode cX9_watch 77 = .ok (.getfield 120, 3) := by decide +kernel
theorem dX9_watch_80 : decode cX9_watch 80 = .ok (.ireturn, 1) := by decide +kernel
theorem dX9_back_0 : decode cX9_back 0 = .ok (.aload_n 0, 1) := by decide +kernel
theorem dX9_back_1 : decode cX9_back 1 = .ok (.getfield 127, 3) := by decide +kernel
theorem dX9_back_4 : decode cX9_back 4 = .ok (.ifCond .ne 6, 3) := by decide +kernel
theorem dX9_back_7 : decode cX9_back 7 = .ok (.bipush (-3), 2) := by decide +kernel
theorem dX9_back_9 : decode cX9_back 9 = .ok (.ireturn, 1) := by decide +kernel
theorem dX9_back_10 : decode cX9_back 10 = .ok (.aload_n 0, 1) := by decide +kernel
theorem dX9_back_11 : decode cX9_back 11 = .ok (.dup, 1) := by decide +kernel
theorem dX9_back_12 : decode cX9_back 12 = .ok (.getfield 127, 3) := by decide +kernel
theorem dX9_back_15 : decode cX9_back 15 = .ok (.iconst 1, 1) := by decide +kernel
theorem dX9_back_16 : decode cX9_back 16 = .ok (.isub, 1) := by decide +kernel
theorem dX9_back_17 : decode cX9_back 17 = .ok (.putfield 127, 3) := by decide +kernel
theorem dX9_back_20 : decode cX9_back 20 = .ok (.aload_n 0, 1) := by decide +kernel
theorem dX9_back_21 : decode cX9_back 21 = .ok (.aload_n 0, 1) := by decide +kernel
theorem dX9_back_22 : decode cX9_back 22 = .ok (.getfield 156, 3) := by decide +kernel
theorem dX9_back_25 : decode cX9_back 25 = .ok (.bipush 23, 2) := by decide +kernel
theorem dX9_back_27 : decode cX9_back 27 = .ok (.iadd, 1) := by decide +kernel
theorem dX9_back_28 : decode cX9_back 28 = .ok (.bipush 24, 2) := by decide +kernel
theorem dX9_back_30 : decode cX9_back 30 = .ok (.irem, 1) := by decide +kernel
theorem dX9_back_31 : decode cX9_back 31 = .ok (.putfield 156, 3) := by decide +kernel
theorem dX9_back_34 : decode cX9_back 34 = .ok (.bipush 32, 2) := by decide +kernel
theorem dX9_back_36 : decode cX9_back 36 = .ok (.aload_n 0, 1) := by decide +kernel
theorem dX9_back_37 : decode cX9_back 37 = .ok (.getfield 156, 3) := by decide +kernel
theorem dX9_back_40 : decode cX9_back 40 = .ok (.imul, 1) := by decide +kernel
theorem dX9_back_41 : decode cX9_back 41 = .ok (.istore_n 1, 1) := by decide +kernel
theorem dX9_back_42 : decode cX9_back 42 = .ok (.iconst 0, 1) := by decide +kernel
theorem dX9_back_43 : decode cX9_back 43 = .ok (.istore_n 2, 1) := by decide +kernel
theorem dX9_back_44 : decode cX9_back 44 = .ok (.iload_n 2, 1) := by decide +kernel
theorem dX9_back_45 : decode cX9_back 45 = .ok (.bipush 10, 2) := by decide +kernel
theorem dX9_back_47 : decode cX9_back 47 = .ok (.if_icmp .ge 57, 3) := by decide +kernel
theorem dX9_back_50 : decode cX9_back 50 = .ok (.aload_n 0, 1) := by decide +kernel
theorem dX9_back_51 : decode cX9_back 51 = .ok (.getfield 40, 3) := by decide +kernel
theorem dX9_back_54 : decode cX9_back 54 = .ok (.iload_n 2, 1) := by decide +kernel
theorem dX9_back_55 : decode cX9_back 55 = .ok (.aload_n 0, 1) := by decide +kernel
theorem dX9_back_56 : decode cX9_back 56 = .ok (.getfield 49, 3) := by decide +kernel
theorem dX9_back_59 : decode cX9_back 59 = .ok (.iload_n 1, 1) := by decide +kernel
theorem dX9_back_60 : decode cX9_back 60 = .ok (.iload_n 2, 1) := by decide +kernel
theorem dX9_back_61 : decode cX9_back 61 = .ok (.iadd, 1) := by decide +kernel
theorem dX9_back_62 : decode cX9_back 62 = .ok (.iaload, 1) := by decide +kernel
theorem dX9_back_63 : decode cX9_back 63 = .ok (.iastore, 1) := by decide +kernel
theorem dX9_back_64 : decode cX9_back 64 = .ok (.aload_n 0, 1) := by decide +kernel
theorem dX9_back_65 : decode cX9_back 65 = .ok (.getfield 43, 3) := by decide +kernel
theorem dX9_back_68 : decode cX9_back 68 = .ok (.iload_n 2, 1) := by decide +kernel
theorem dX9_back_69 : decode cX9_back 69 = .ok (.aload_n 0, 1) := by decide +kernel
theorem dX9_back_70 : decode cX9_back 70 = .ok (.getfield 49, 3) := by decide +kernel
theorem dX9_back_73 : decode cX9_back 73 = .ok (.iload_n 1, 1) := by decide +kernel
theorem dX9_back_74 : decode cX9_back 74 = .ok (.bipush 10, 2) := by decide +kernel
theorem dX9_back_76 : decode cX9_back 76 = .ok (.iadd, 1) := by decide +kernel
theorem dX9_back_77 : decode cX9_back 77 = .ok (.iload_n 2, 1) := by decide +kernel
theorem dX9_back_78 : decode cX9_back 78 = .ok (.iadd, 1) := by decide +kernel
theorem dX9_back_79 : decode cX9_back 79 = .ok (.iaload, 1) := by decide +kernel
theorem dX9_back_80 : decode cX9_back 80 = .ok (.iastore, 1) := by decide +kernel
theorem dX9_back_81 : decode cX9_back 81 = .ok (.aload_n 0, 1) := by decide +kernel
theorem dX9_back_82 : decode cX9_back 82 = .ok (.getfield 46, 3) := by decide +kernel
theorem dX9_back_85 : decode cX9_back 85 = .ok (.iload_n 2, 1) := by decide +kernel
theorem dX9_back_86 : decode cX9_back 86 = .ok (.aload_n 0, 1) := by decide +kernel
theorem dX9_back_87 : decode cX9_back 87 = .ok (.getfield 49, 3) := by decide +kernel
theorem dX9_back_90 : decode cX9_back 90 = .ok (.iload_n 1, 1) := by decide +kernel
theorem dX9_back_91 : decode cX9_back 91 = .ok (.bipush 20, 2) := by decide +kernel
theorem dX9_back_93 : decode cX9_back 93 = .ok (.iadd, 1) := by decide +kernel
theorem dX9_back_94 : decode cX9_back 94 = .ok (.iload_n 2, 1) := by decide +kernel
theorem dX9_back_95 : decode cX9_back 95 = .ok (.iadd, 1) := by decide +kernel
theorem dX9_back_96 : decode cX9_back 96 = .ok (.iaload, 1) := by decide +kernel
theorem dX9_back_97 : decode cX9_back 97 = .ok (.iastore, 1) := by decide +kernel
theorem dX9_back_98 : decode cX9_back 98 = .ok (.iinc 2 1, 3) := by decide +kernel
theorem dX9_back_101 : decode cX9_back 101 = .ok (.goto (-57), 3) := by decide +kernel
theorem dX9_back_104 : decode cX9_back 104 = .ok (.aload_n 0, 1) := by decide +kernel
theorem dX9_back_105 : decode cX9_back 105 = .ok (.aload_n 0, 1) := by decide +kernel
theorem dX9_back_106 : decode cX9_back 106 = .ok (.getfield 49, 3) := by decide +kernel
theorem dX9_back_109 : decode cX9_back 109 = .ok (.iload_n 1, 1) := by decide +kernel
theorem dX9_back_110 : decode cX9_back 110 = .ok (.bipush 30, 2) := by decide +kernel
theorem dX9_back_112 : decode cX9_back 112 = .ok (.iadd, 1) := by decide +kernel
theorem dX9_back_113 : decode cX9_back 113 = .ok (.iaload, 1) := by decide +kernel
theorem dX9_back_114 : decode cX9_back 114 = .ok (.putfield 120, 3) := by decide +kernel
theorem dX9_back_117 : decode cX9_back 117 = .ok (.aload_n 0, 1) := by decide +kernel
theorem dX9_back_118 : decode cX9_back 118 = .ok (.aload_n 0, 1) := by decide +kernel
theorem dX9_back_119 : decode cX9_back 119 = .ok (.getfield 49, 3) := by decide +kernel
theorem dX9_back_122 : decode cX9_back 122 = .ok (.iload_n 1, 1) := by decide +kernel
theorem dX9_back_123 : decode cX9_back 123 = .ok (.bipush 31, 2) := by decide +kernel
theorem dX9_back_125 : decode cX9_back 125 = .ok (.iadd, 1) := by decide +kernel
theorem dX9_back_126 : decode cX9_back 126 = .ok (.iaload, 1) := by decide +kernel
theorem dX9_back_127 : decode cX9_back 127 = .ok (.iconst 1, 1) := by decide +kernel
theorem dX9_back_128 : decode cX9_back 128 = .ok (.if_icmp .ne 7, 3) := by decide +kernel
theorem dX9_back_131 : decode cX9_back 131 = .ok (.iconst 1, 1) := by decide +kernel
theorem dX9_back_132 : decode cX9_back 132 = .ok (.goto 4, 3) := by decide +kernel
theorem dX9_back_135 : decode cX9_back 135 = .ok (.iconst 0, 1) := by decide +kernel
theorem dX9_back_136 : decode cX9_back 136 = .ok (.putfield 123, 3) := by decide +kernel
theorem dX9_back_139 : decode cX9_back 139 = .ok (.aload_n 0, 1) := by decide +kernel
theorem dX9_back_140 : decode cX9_back 140 = .ok (.getfield 127, 3) := by decide +kernel
theorem dX9_back_143 : decode cX9_back 143 = .ok (.ireturn, 1) := by decide +kernel
set_option maxRecDepth 20000 in
theorem ggX9_leak_X9_leakOf : GoodIn wsX9_leak wsX9_leakOf := goodIn_r _ [5, 6, 7, 8, 9, 10, 4, 11, 12, 13, 14, 15, 16, 17, 18, 19, 20, 21, 22, 23, 24, 25, 26, 27, 28, 29, 30, 31, 32, 33, 34, 35, 36, 37, 38, 39, 40, 41, 42, 43, 44, 45, 46, 47, 48, 49, 50, 51] (by decide +kernel) (by decide +kernel)
set_option maxRecDepth 20000 in
theorem gX9_leak_X9_leakOf : GoodIn wsX9_leak (wsV RX9 169 RX9 yX9_leakOf wsX9_leakOf) := goodIn_app (goodIn_of _ (by decide +kernel)) ggX9_leak_X9_leakOf
theorem dX9_leak_0 : decode cX9_leak 0 = .ok (.aload_n 0, 1) := by decide +kernel
theorem dX9_leak_1 : decode cX9_leak 1 = .ok (.iconst 0, 1) := by decide +kernel
theorem dX9_leak_2 : decode cX9_leak 2 = .ok (.invokevirtual 169, 3) := by decide +kernel
theorem dX9_leak_5 : decode cX9_leak 5 = .ok (.ireturn, 1) := by decide +kernel
set_option maxRecDepth 20000 in
theorem ggX9_floatsOf_X9_copy : GoodIn wsX9_floatsOf wsX9_copy := goodIn_r _ [9, 10, 11, 12, 36, 37, 38, 39, 40, 41, 42, 43, 44, 45, 46, 47, 48, 49, 50, 51, 52, 53, 54, 55, 56, 57, 58, 59, 60, 61, 62, 63, 64, 65, 66, 67, 68, 69, 70] (by decide +kernel) (by decide +kernel)
set_option maxRecDepth 20000 in
theorem gX9_floatsOf_X9_copy : GoodIn wsX9_floatsOf (wsV RX9 162 RX9 yX9_copy wsX9_copy) := goodIn_app (goodIn_of _ (by decide +kernel)) ggX9_floatsOf_X9_copy
set_option maxRecDepth 20000 in
theorem ggX9_floatsOf_X9_leakOf : GoodIn wsX9_floatsOf wsX9_leakOf := goodIn_r _ [16, 17, 18, 19, 20, 21, 8, 22, 23, 24, 25, 26, 10, 36, 37, 38, 39, 40, 41, 42, 43, 44, 45, 46, 47, 48, 49, 50, 51, 52, 53, 54, 55, 56, 57, 58, 59, 60, 61, 62, 63, 64, 65, 66, 67, 68, 69, 70] (by decide +kernel) (by decide +kernel)
set_option maxRecDepth 20000 in
theorem gX9_floatsOf_X9_leakOf : GoodIn wsX9_floatsOf (wsV RX9 169 RX9 yX9_leakOf wsX9_leakOf) := goodIn_app (goodIn_of _ (by decide +kernel)) ggX9_floatsOf_X9_leakOf
set_option maxRecDepth 20000 in
theorem ggX9_floatsOf_X9_gnaw : GoodIn wsX9_floatsOf wsX9_gnaw := goodIn_r _ [30, 17, 10, 12, 31, 32, 33, 8, 34, 35, 23, 24, 25, 26, 36, 37, 38, 39, 40, 41, 42, 43, 44, 45, 46, 47, 48, 49, 50, 51, 52, 53, 54, 55, 56, 57, 58, 59, 60, 61, 62, 63, 64, 65, 66, 67, 68, 69, 70] (by decide +kernel) (by decide +kernel)
set_option maxRecDepth 20000 in
theorem gX9_floatsOf_X9_gnaw : GoodIn wsX9_floatsOf (wsV RX9 172 RX9 yX9_gnaw wsX9_gnaw) := goodIn_app (goodIn_of _ (by decide +kernel)) ggX9_floatsOf_X9_gnaw
theorem dX9_floatsOf_0 : decode cX9_floatsOf 0 = .ok (.aload_n 0, 1) := by decide +kernel
theorem dX9_floatsOf_1 : decode cX9_floatsOf 1 = .ok (.getfield 123, 3) := by decide +kernel
theorem dX9_floatsOf_4 : decode cX9_floatsOf 4 = .ok (.ifCond .eq 5, 3) := by decide +kernel
theorem dX9_floatsOf_7 : decode cX9_floatsOf 7 = .ok (.iconst 0, 1) := by decide +kernel
theorem dX9_floatsOf_8 : decode cX9_floatsOf 8 = .ok (.ireturn, 1) := by decide +kernel
theorem dX9_floatsOf_9 : decode cX9_floatsOf 9 = .ok (.aload_n 0, 1) := by decide +kernel
theorem dX9_floatsOf_10 : decode cX9_floatsOf 10 = .ok (.iload_n 1, 1) := by decide +kernel
theorem dX9_floatsOf_11 : decode cX9_floatsOf 11 = .ok (.iload_n 2, 1) := by decide +kernel
theorem dX9_floatsOf_12 : decode cX9_floatsOf 12 = .ok (.invokevirtual 162, 3) := by decide +kernel
theorem dX9_floatsOf_15 : decode cX9_floatsOf 15 = .ok (.aload_n 0, 1) := by decide +kernel
theorem dX9_floatsOf_16 : decode cX9_floatsOf 16 = .ok (.getfield 120, 3) := by decide +kernel
theorem dX9_floatsOf_19 : decode cX9_floatsOf 19 = .ok (.istore_n 3, 1) := by decide +kernel
theorem dX9_floatsOf_20 : decode cX9_floatsOf 20 = .ok (.iconst 0, 1) := by decide +kernel
theorem dX9_floatsOf_21 : decode cX9_floatsOf 21 = .ok (.istore 4, 2) := by decide +kernel
theorem dX9_floatsOf_23 : decode cX9_floatsOf 23 = .ok (.iload 4, 2) := by decide +kernel
theorem dX9_floatsOf_25 : decode cX9_floatsOf 25 = .ok (.bipush 99, 2) := by decide +kernel
theorem dX9_floatsOf_27 : decode cX9_floatsOf 27 = .ok (.if_icmp .ge 48, 3) := by decide +kernel
theorem dX9_floatsOf_30 : decode cX9_floatsOf 30 = .ok (.iload_n 3, 1) := by decide +kernel
theorem dX9_floatsOf_31 : decode cX9_floatsOf 31 = .ok (.aload_n 0, 1) := by decide +kernel
theorem dX9_floatsOf_32 : decode cX9_floatsOf 32 = .ok (.iload_n 2, 1) := by decide +kernel
theorem dX9_floatsOf_33 : decode cX9_floatsOf 33 = .ok (.invokevirtual 169, 3) := by decide +kernel
theorem dX9_floatsOf_36 : decode cX9_floatsOf 36 = .ok (.aload_n 0, 1) := by decide +kernel
theorem dX9_floatsOf_37 : decode cX9_floatsOf 37 = .ok (.getfield 117, 3) := by decide +kernel
theorem dX9_floatsOf_40 : decode cX9_floatsOf 40 = .ok (.isub, 1) := by decide +kernel
theorem dX9_floatsOf_41 : decode cX9_floatsOf 41 = .ok (.iadd, 1) := by decide +kernel
theorem dX9_floatsOf_42 : decode cX9_floatsOf 42 = .ok (.istore_n 3, 1) := by decide +kernel
theorem dX9_floatsOf_43 : decode cX9_floatsOf 43 = .ok (.iload_n 3, 1) := by decide +kernel
theorem dX9_floatsOf_44 : decode cX9_floatsOf 44 = .ok (.ifCond .ge 7, 3) := by decide +kernel
theorem dX9_floatsOf_47 : decode cX9_floatsOf 47 = .ok (.iconst 0, 1) := by decide +kernel
theorem dX9_floatsOf_48 : decode cX9_floatsOf 48 = .ok (.goto 4, 3) := by decide +kernel
theorem dX9_floatsOf_51 : decode cX9_floatsOf 51 = .ok (.iload_n 3, 1) := by decide +kernel
theorem dX9_floatsOf_52 : decode cX9_floatsOf 52 = .ok (.istore_n 3, 1) := by decide +kernel
