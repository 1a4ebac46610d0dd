theorem dX9_floatsOf_53 : decode cX9_floatsOf 53 = .ok (.iload_n 3, 1) := by decide +kernel
theorem dX9_floatsOf_54 : decode cX9_floatsOf 54 = .ok (.aload_n 0, 1) := by decide +kernel
theorem dX9_floatsOf_55 : decode cX9_floatsOf 55 = .ok (.getfield 72, 3) := by decide +kernel
theorem dX9_floatsOf_58 : decode cX9_floatsOf 58 = .ok (.if_icmp .le 6, 3) := by decide +kernel
theorem dX9_floatsOf_61 : decode cX9_floatsOf 61 = .ok (.iload 4, 2) := by decide +kernel
theorem dX9_floatsOf_63 : decode cX9_floatsOf 63 = .ok (.ireturn, 1) := by decide +kernel
theorem dX9_floatsOf_64 : decode cX9_floatsOf 64 = .ok (.aload_n 0, 1) := by decide +kernel
theorem dX9_floatsOf_65 : decode cX9_floatsOf 65 = .ok (.iload_n 2, 1) := by decide +kernel
theorem dX9_floatsOf_66 : decode cX9_floatsOf 66 = .ok (.invokevirtual 172, 3) := by decide +kernel
theorem dX9_floatsOf_69 : decode cX9_floatsOf 69 = .ok (.iinc 4 1, 3) := by decide +kernel
theorem dX9_floatsOf_72 : decode cX9_floatsOf 72 = .ok (.goto (-49), 3) := by decide +kernel
theorem dX9_floatsOf_75 : decode cX9_floatsOf 75 = .ok (.bipush 99, 2) := by decide +kernel
theorem dX9_floatsOf_77 : decode cX9_floatsOf 77 = .ok (.ireturn, 1) := by decide +kernel
set_option maxRecDepth 20000 in
theorem ggX9_floats_X9_floatsOf : GoodIn wsX9_floats wsX9_floatsOf := goodIn_r _ [5, 6, 7, 8, 9, 10, 11, 12, 4, 13, 14, 15, 16, 17, 18, 19, 20, 21, 22, 23, 24, 25, 26, 27, 28, 29, 30, 31, 32, 33, 34, 35, 36, 37, 38, 39, 40, 41, 42, 43, 44, 45, 46, 47, 48, 49, 50, 51, 52, 53, 54, 55, 56, 57, 58, 59, 60, 61, 62, 63, 64, 65, 66, 67, 68, 69, 70, 71, 72, 73, 74] (by decide +kernel) (by decide +kernel)
set_option maxRecDepth 20000 in
theorem gX9_floats_X9_floatsOf : GoodIn wsX9_floats (wsV RX9 175 RX9 yX9_floatsOf wsX9_floatsOf) := goodIn_app (goodIn_of _ (by decide +kernel)) ggX9_floats_X9_floatsOf
theorem dX9_floats_0 : decode cX9_floats 0 = .ok (.aload_n 0, 1) := by decide +kernel
theorem dX9_floats_1 : decode cX9_floats 1 = .ok (.iconst 0, 1) := by decide +kernel
theorem dX9_floats_2 : decode cX9_floats 2 = .ok (.bipush 50, 2) := by decide +kernel
theorem dX9_floats_4 : decode cX9_floats 4 = .ok (.invokevirtual 175, 3) := by decide +kernel
theorem dX9_floats_7 : decode cX9_floats 7 = .ok (.ireturn, 1) := by decide +kernel
set_option maxRecDepth 20000 in
theorem ggX9_harm_X9_isPlace : GoodIn wsX9_harm wsX9_isPlace := goodIn_r _ [6, 7, 8, 9, 5, 10, 35, 36, 37, 38, 39, 40, 41, 42, 43, 44, 45, 46, 47, 48, 49, 50, 51, 52, 53, 54, 55, 56, 57, 58, 59, 60, 61, 62, 63, 64, 65, 66, 67, 68, 69] (by decide +kernel) (by decide +kernel)
set_option maxRecDepth 20000 in
theorem gX9_harm_X9_isPlace : GoodIn wsX9_harm (wsV RX9 130 RX9 yX9_isPlace wsX9_isPlace) := goodIn_app (goodIn_of _ (by decide +kernel)) ggX9_harm_X9_isPlace
set_option maxRecDepth 20000 in
theorem ggX9_harm_X9_inside : GoodIn wsX9_harm wsX9_inside := goodIn_r _ [14, 7, 1, 35, 36, 37, 38, 39, 40, 41, 42, 43, 44, 45, 46, 47, 48, 49, 50, 51, 52, 53, 54, 55, 56, 57, 58, 59, 60, 61, 62, 63, 64, 65, 66, 67, 68, 69] (by decide +kernel) (by decide +kernel)
set_option maxRecDepth 20000 in
theorem gX9_harm_X9_inside : GoodIn wsX9_harm (wsV RX9 134 RX9 yX9_inside wsX9_inside) := goodIn_app (goodIn_of _ (by decide +kernel)) ggX9_harm_X9_inside
set_option maxRecDepth 20000 in
theorem ggX9_harm_X9_copy : GoodIn wsX9_harm wsX9_copy := goodIn_r _ [18, 1, 19, 20, 35, 36, 37, 38, 39, 40, 41, 42, 43, 44, 45, 46, 47, 48, 49, 50, 51, 52, 53, 54, 55, 56, 57, 58, 59, 60, 61, 62, 63, 64, 65, 66, 67, 68, 69] (by decide +kernel) (by decide +kernel)
set_option maxRecDepth 20000 in
theorem gX9_harm_X9_copy : GoodIn wsX9_harm (wsV RX9 162 RX9 yX9_copy wsX9_copy) := goodIn_app (goodIn_of _ (by decide +kernel)) ggX9_harm_X9_copy
set_option maxRecDepth 20000 in
theorem ggX9_harm_X9_comeDown : GoodIn wsX9_harm wsX9_comeDown := goodIn_r _ [24, 7, 1, 25, 11, 12, 13, 5, 14, 35, 36, 37, 38, 39, 40, 41, 42, 43, 44, 45, 46, 47, 48, 49, 50, 51, 52, 53, 54, 55, 56, 57, 58, 59, 60, 61, 62, 63, 64, 65, 66, 67, 68, 69] (by decide +kernel) (by decide +kernel)
set_option maxRecDepth 20000 in
theorem gX9_harm_X9_comeDown : GoodIn wsX9_harm (wsV RX9 152 RX9 yX9_comeDown wsX9_comeDown) := goodIn_app (goodIn_of _ (by decide +kernel)) ggX9_harm_X9_comeDown
set_option maxRecDepth 20000 in
theorem ggX9_harm_X9_leakOf : GoodIn wsX9_harm wsX9_leakOf := goodIn_r _ [29, 7, 30, 31, 32, 33, 5, 34, 11, 12, 13, 14, 1, 35, 36, 37, 38, 39, 40, 41, 42, 43, 44, 45, 46, 47, 48, 49, 50, 51, 52, 53, 54, 55, 56, 57, 58, 59, 60, 61, 62, 63, 64, 65, 66, 67, 68, 69] (by decide +kernel) (by decide +kernel)
set_option maxRecDepth 20000 in
theorem gX9_harm_X9_leakOf : GoodIn wsX9_harm (wsV RX9 169 RX9 yX9_leakOf wsX9_leakOf) := goodIn_app (goodIn_of _ (by decide +kernel)) ggX9_harm_X9_leakOf
theorem dX9_harm_0 : decode cX9_harm 0 = .ok (.aload_n 0, 1) := by decide +kernel
theorem dX9_harm_1 : decode cX9_harm 1 = .ok (.iload_n 1, 1) := by decide +kernel
theorem dX9_harm_2 : decode cX9_harm 2 = .ok (.invokevirtual 130, 3) := by decide +kernel
theorem dX9_harm_5 : decode cX9_harm 5 = .ok (.ifCond .ne 5, 3) := by decide +kernel
theorem dX9_harm_8 : decode cX9_harm 8 = .ok (.iconst (-1), 1) := by decide +kernel
theorem dX9_harm_9 : decode cX9_harm 9 = .ok (.ireturn, 1) := by decide +kernel
theorem dX9_harm_10 : decode cX9_harm 10 = .ok (.aload_n 0, 1) := by decide +kernel
theorem dX9_harm_11 : decode cX9_harm 11 = .ok (.iconst 0, 1) := by decide +kernel
theorem dX9_harm_12 : decode cX9_harm 12 = .ok (.iload_n 1, 1) := by decide +kernel
theorem dX9_harm_13 : decode cX9_harm 13 = .ok (.invokevirtual 134, 3) := by decide +kernel
theorem dX9_harm_16 : decode cX9_harm 16 = .ok (.istore_n 2, 1) := by decide +kernel
theorem dX9_harm_17 : decode cX9_harm 17 = .ok (.iload_n 2, 1) := by decide +kernel
theorem dX9_harm_18 : decode cX9_harm 18 = .ok (.bipush (-9), 2) := by decide +kernel
theorem dX9_harm_20 : decode cX9_harm 20 = .ok (.if_icmp .ne 6, 3) := by decide +kernel
theorem dX9_harm_23 : decode cX9_harm 23 = .ok (.bipush (-3), 2) := by decide +kernel
theorem dX9_harm_25 : decode cX9_harm 25 = .ok (.ireturn, 1) := by decide +kernel
theorem dX9_harm_26 : decode cX9_harm 26 = .ok (.aload_n 0, 1) := by decide +kernel
theorem dX9_harm_27 : decode cX9_harm 27 = .ok (.iconst 0, 1) := by decide +kernel
theorem dX9_harm_28 : decode cX9_harm 28 = .ok (.bipush 10, 2) := by decide +kernel
theorem dX9_harm_30 : decode cX9_harm 30 = .ok (.invokevirtual 162, 3) := by decide +kernel
theorem dX9_harm_33 : decode cX9_harm 33 = .ok (.aload_n 0, 1) := by decide +kernel
theorem dX9_harm_34 : decode cX9_harm 34 = .ok (.getfield 40, 3) := by decide +kernel
theorem dX9_harm_37 : decode cX9_harm 37 = .ok (.bipush 10, 2) := by decide +kernel
theorem dX9_harm_39 : decode cX9_harm 39 = .ok (.iload_n 2, 1) := by decide +kernel
theorem dX9_harm_40 : decode cX9_harm 40 = .ok (.iadd, 1) := by decide +kernel
theorem dX9_harm_41 : decode cX9_harm 41 = .ok (.sipush 200, 3) := by decide +kernel
theorem dX9_harm_44 : decode cX9_harm 44 = .ok (.iastore, 1) := by decide +kernel
theorem dX9_harm_45 : decode cX9_harm 45 = .ok (.aload_n 0, 1) := by decide +kernel
theorem dX9_harm_46 : decode cX9_harm 46 = .ok (.bipush 10, 2) := by decide +kernel
theorem dX9_harm_48 : decode cX9_harm 48 = .ok (.invokevirtual 152, 3) := by decide +kernel
theorem dX9_harm_51 : decode cX9_harm 51 = .ok (.aload_n 0, 1) := by decide +kernel
theorem dX9_harm_52 : decode cX9_harm 52 = .ok (.bipush 10, 2) := by decide +kernel
theorem dX9_harm_54 : decode cX9_harm 54 = .ok (.invokevirtual 169, 3) := by decide +kernel
theorem dX9_harm_57 : decode cX9_harm 57 = .ok (.ireturn, 1) := by decide +kernel
set_option maxRecDepth 20000 in
theorem ggX9_may_X9_isPlace : GoodIn wsX9_may wsX9_isPlace := goodIn_r _ [6, 7, 8, 9, 5, 10, 40, 41, 42, 43, 44, 45, 46, 47, 48, 49, 50, 51, 52, 53, 54, 55, 56, 57, 58, 59, 60, 61, 62, 63, 64, 65, 66, 67, 68, 69, 70, 71, 72, 73, 74] (by decide +kernel) (by decide +kernel)
set_option maxRecDepth 20000 in
theorem gX9_may_X9_isPlace : GoodIn wsX9_may (wsV RX9 130 RX9 yX9_isPlace wsX9_isPlace) := goodIn_app (goodIn_of _ (by decide +kernel)) ggX9_may_X9_isPlace
set_option maxRecDepth 20000 in
theorem ggX9_may_X9_copy : GoodIn wsX9_may wsX9_copy := goodIn_r _ [14, 15, 16, 17, 40, 41, 42, 43, 44, 45, 46, 47, 48, 49, 50, 51, 52, 53, 54, 55, 56, 57, 58, 59, 60, 61, 62, 63, 64, 65, 66, 67, 68, 69, 70, 71, 72, 73, 74] (by decide +kernel) (by decide +kernel)
set_option maxRecDepth 20000 in
theorem gX9_may_X9_copy : GoodIn wsX9_may (wsV RX9 162 RX9 yX9_copy wsX9_copy) := goodIn_app (goodIn_of _ (by decide +kernel)) ggX9_may_X9_copy
set_option maxRecDepth 20000 in
theorem ggX9_may_X9_goes : GoodIn wsX9_may wsX9_goes := goodIn_r _ [21, 15, 16, 22, 23, 24, 25, 5, 26, 27, 28, 29, 30, 7, 31, 32, 33, 34, 35, 36, 37, 38, 39, 40, 41, 42, 43, 44, 45, 46, 47, 48, 49, 50, 51, 52, 53, 54, 55, 56, 57, 58, 59, 60, 61, 62, 63, 64, 65, 66, 67, 68, 69, 70, 71, 72, 73, 74] (by decide +kernel) (by decide +kernel)
set_option maxRecDepth 20000 in
theorem gX9_may_X9_goes : GoodIn wsX9_may (wsV RX9 166 RX9 yX9_goes wsX9_goes) := goodIn_app (goodIn_of _ (by decide +kernel)) ggX9_may_X9_goes
theorem dX9_may_0 : decode cX9_may 0 = .ok (.aload_n 0, 1) := by decide +kernel
theorem dX9_may_1 : decode cX9_may 1 = .ok (.iload_n 1, 1) := by decide +kernel
theorem dX9_may_2 : decode cX9_may 2 = .ok (.invokevirtual 130, 3) := by decide +kernel
theorem dX9_may_5 : decode cX9_may 5 = .ok (.ifCond .eq 11, 3) := by decide +kernel
theorem dX9_may_8 : decode cX9_may 8 = .ok (.aload_n 0, 1) := by decide +kernel
theorem dX9_may_9 : decode cX9_may 9 = .ok (.iload_n 2, 1) := by decide +kernel
theorem dX9_may_10 : decode cX9_may 10 = .ok (.invokevirtual 130, 3) := by decide +kernel
theorem dX9_may_13 : decode cX9_may 13 = .ok (.ifCond .ne 5, 3) := by decide +kernel
theorem dX9_may_16 : decode cX9_may 16 = .ok (.iconst (-1), 1) := by decide +kernel
theorem dX9_may_17 : decode cX9_may 17 = .ok (.ireturn, 1) := by decide +kernel
theorem dX9_may_18 : decode cX9_may 18 = .ok (.aload_n 0, 1) := by decide +kernel
theorem dX9_may_19 : decode cX9_may 19 = .ok (.iconst 0, 1) := by decide +kernel
theorem dX9_may_20 : decode cX9_may 20 = .ok (.bipush 10, 2) := by decide +kernel
theorem dX9_may_22 : decode cX9_may 22 = .ok (.invokevirtual 162, 3) := by decide +kernel
theorem dX9_may_25 : decode cX9_may 25 = .ok (.aload_n 0, 1) := by decide +kernel
theorem dX9_may_26 : decode cX9_may 26 = .ok (.getfield 123, 3) := by decide +kernel
theorem dX9_may_29 : decode cX9_may 29 = .ok (.ifCond .ne 18, 3) := by decide +kernel
theorem dX9_may_32 : decode cX9_may 32 = .ok (.aload_n 0, 1) := by decide +kernel
theorem dX9_may_33 : decode cX9_may 33 = .ok (.bipush 10, 2) := by decide +kernel
theorem dX9_may_35 : decode cX9_may 35 = .ok (.iload_n 1, 1) := by decide +kernel
theorem dX9_may_36 : decode cX9_may 36 = .ok (.iload_n 2, 1) := by decide +kernel
theorem dX9_may_37 : decode cX9_may 37 = .ok (.invokevirtual 166, 3) := by decide +kernel
theorem dX9_may_40 : decode cX9_may 40 = .ok (.ifCond .eq 7, 3) := by decide +kernel
theorem dX9_may_43 : decode cX9_may 43 = .ok (.iconst 1, 1) := by decide +kernel
theorem dX9_may_44 : decode cX9_may 44 = .ok (.goto 4, 3) := by decide +kernel
theorem dX9_may_47 : decode cX9_may 47 = .ok (.iconst 0, 1) := by decide +kernel
theorem dX9_may_48 : decode cX9_may 48 = .ok (.ireturn, 1) := by decide +kernel
set_option maxRecDepth 20000 in
theorem ggX9_layBest_X9_leakOf : GoodIn wsX9_layBest wsX9_leakOf := goodIn_r _ [9, 3, 10, 11, 12, 13, 8, 14, 15, 16, 17, 18, 19, 48, 49, 50, 51, 52, 53, 54, 55, 56, 57, 58, 59, 60, 61, 62, 63, 64, 65, 66, 67, 68, 69, 70, 71, 72, 73, 74, 75, 76, 77, 78, 79, 80, 81, 82] (by decide +kernel) (by decide +kernel)
set_option maxRecDepth 20000 in
theorem gX9_layBest_X9_leakOf : GoodIn wsX9_layBest (wsV RX9 169 RX9 yX9_leakOf wsX9_leakOf) := goodIn_app (goodIn_of _ (by decide +kernel)) ggX9_layBest_X9_leakOf
set_option maxRecDepth 20000 in
theorem ggX9_layBest_X9_copy : GoodIn wsX9_layBest wsX9_copy := goodIn_r _ [23, 19, 24, 25, 48, 49, 50, 51, 52, 53, 54, 55, 56, 57, 58, 59, 60, 61, 62, 63, 64, 65, 66, 67, 68, 69, 70, 71, 72, 73, 74, 75, 76, 77, 78, 79, 80, 81, 82] (by decide +kernel) (by decide +kernel)
set_option maxRecDepth 20000 in
theorem gX9_layBest_X9_copy : GoodIn wsX9_layBest (wsV RX9 162 RX9 yX9_copy wsX9_copy) := goodIn_app (goodIn_of _ (by decide +kernel)) ggX9_layBest_X9_copy
set_option maxRecDepth 20000 in
theorem ggX9_layBest_X9_goes : GoodIn wsX9_layBest wsX9_goes := goodIn_r _ [29, 19, 24, 30, 31, 32, 33, 8, 34, 15, 16, 17, 18, 3, 35, 36, 37, 38, 39, 40, 41, 42, 43, 48, 49, 50, 51, 52, 53, 54, 55, 56, 57, 58, 59, 60, 61, 62, 63, 64, 65, 66, 67, 68, 69, 70, 71, 72, 73, 74, 75, 76, 77, 78, 79, 80, 81, 82] (by decide +kernel) (by decide +kernel)
set_option maxRecDepth 20000 in
theorem gX9_layBest_X9_goes : GoodIn wsX9_layBest (wsV RX9 166 RX9 yX9_goes wsX9_goes) := goodIn_app (goodIn_of _ (by decide +kernel)) ggX9_layBest_X9_goes
set_option maxRecDepth 20000 in
theorem ggX9_layBest_X9_laySecond : GoodIn wsX9_layBest wsX9_laySecond := goodIn_r _ [47, 3, 2, 1, 4, 20, 21, 22, 8, 23, 19, 24, 25, 26, 27, 28, 29, 30, 31, 32, 33, 34, 15, 16, 17, 18, 35, 36, 37, 38, 39, 40, 41, 42, 43, 5, 6, 7, 9, 10, 11, 12, 13, 14, 48, 49, 50, 51, 52, 53, 54, 55, 56, 57, 58, 59, 60, 61, 62, 63, 64, 65, 66, 67, 68, 69, 70, 71, 72, 73, 74, 75, 76, 77, 78, 79, 80, 81, 82] (by decide +kernel) (by decide +kernel)
set_option maxRecDepth 20000 in
theorem gX9_layBest_X9_laySecond : GoodIn wsX9_layBest (wsV RX9 184 RX9 yX9_laySecond wsX9_laySecond) := goodIn_app (goodIn_of _ (by decide +kernel)) ggX9_layBest_X9_laySecond
theorem dX9_layBest_0 : decode cX9_layBest 0 = .ok (.aload_n 0, 1) := by decide +kernel
theorem dX9_layBest_1 : decode cX9_layBest 1 = .ok (.iconst 0, 1) := by decide +kernel
theorem dX9_layBest_2 : decode cX9_layBest 2 = .ok (.putfield 178, 3) := by decide +kernel
theorem dX9_layBest_5 : decode cX9_layBest 5 = .ok (.aload_n 0, 1) := by decide +kernel
theorem dX9_layBest_6 : decode cX9_layBest 6 = .ok (.aload_n 0, 1) := by decide +kernel
theorem dX9_layBest_7 : decode cX9_layBest 7 = .ok (.iconst 0, 1) := by decide +kernel
theorem dX9_layBest_8 : decode cX9_layBest 8 = .ok (.invokevirtual 169, 3) := by decide +kernel
theorem dX9_layBest_11 : decode cX9_layBest 11 = .ok (.putfield 181, 3) := by decide +kernel
theorem dX9_layBest_14 : decode cX9_layBest 14 = .ok (.iconst 0, 1) := by decide +kernel
theorem dX9_layBest_15 : decode cX9_layBest 15 = .ok (.istore_n 2, 1) := by decide +kernel
theorem dX9_layBest_16 : decode cX9_layBest 16 = .ok (.iload_n 2, 1) := by decide +kernel
theorem dX9_layBest_17 : decode cX9_layBest 17 = .ok (.bipush 10, 2) := by decide +kernel
theorem dX9_layBest_19 : decode cX9_layBest 19 = .ok (.aload_n 0, 1) := by decide +kernel
theorem dX9_layBest_20 : decode cX9_layBest 20 = .ok (.getfield 114, 3) := by decide +kernel
theorem dX9_layBest_23 : decode cX9_layBest 23 = .ok (.imul, 1) := by decide +kernel
theorem dX9_layBest_24 : decode cX9_layBest 24 = .ok (.if_icmp .ge 83, 3) := by decide +kernel
theorem dX9_layBest_27 : decode cX9_layBest 27 = .ok (.iload_n 1, 1) := by decide +kernel
theorem dX9_layBest_28 : decode cX9_layBest 28 = .ok (.ifCond .le 79, 3) := by decide +kernel
theorem dX9_layBest_31 : decode cX9_layBest 31 = .ok (.aload_n 0, 1) := by decide +kernel
theorem dX9_layBest_32 : decode cX9_layBest 32 = .ok (.iconst 0, 1) := by decide +kernel
theorem dX9_layBest_33 : decode cX9_layBest 33 = .ok (.bipush 10, 2) := by decide +kernel
theorem dX9_layBest_35 : decode cX9_layBest 35 = .ok (.invokevirtual 162, 3) := by decide +kernel
theorem dX9_layBest_38 : decode cX9_layBest 38 = .ok (.iload_n 2, 1) := by decide +kernel
theorem dX9_layBest_39 : decode cX9_layBest 39 = .ok (.bipush 10, 2) := by decide +kernel
theorem dX9_layBest_41 : decode cX9_layBest 41 = .ok (.irem, 1) := by decide +kernel
theorem dX9_layBest_42 : decode cX9_layBest 42 = .ok (.aload_n 0, 1) := by decide +kernel
theorem dX9_layBest_43 : decode cX9_layBest 43 = .ok (.getfield 114, 3) := by decide +kernel
theorem dX9_layBest_46 : decode cX9_layBest 46 = .ok (.if_icmp .ge 55, 3) := by decide +kernel
theorem dX9_layBest_49 : decode cX9_layBest 49 = .ok (.aload_n 0, 1) := by decide +kernel
theorem dX9_layBest_50 : decode cX9_layBest 50 = .ok (.bipush 10, 2) := by decide +kernel
theorem dX9_layBest_52 : decode cX9_layBest 52 = .ok (.iload_n 2, 1) := by decide +kernel
theorem dX9_layBest_53 : decode cX9_layBest 53 = .ok (.bipush 10, 2) := by decide +kernel
theorem dX9_layBest_55 : decode cX9_layBest 55 = .ok (.idiv, 1) := by decide +kernel
theorem dX9_layBest_56 : decode cX9_layBest 56 = .ok (.iload_n 2, 1) := by decide +kernel
theorem dX9_layBest_57 : decode cX9_layBest 57 = .ok (.bipush 10, 2) := by decide +kernel
theorem dX9_layBest_59 : decode cX9_layBest 59 = .ok (.irem, 1) := by decide +kernel
theorem dX9_layBest_60 : decode cX9_layBest 60 = .ok (.invokevirtual 166, 3) := by decide +kernel
theorem dX9_layBest_63 : decode cX9_layBest 63 = .ok (.ifCond .eq 38, 3) := by decide +kernel
theorem dX9_layBest_66 : decode cX9_layBest 66 = .ok (.aload_n 0, 1) := by decide +kernel
theorem dX9_layBest_67 : decode cX9_layBest 67 = .ok (.bipush 10, 2) := by decide +kernel
theorem dX9_layBest_69 : decode cX9_layBest 69 = .ok (.invokevirtual 169, 3) := by decide +kernel
theorem dX9_layBest_72 : decode cX9_layBest 72 = .ok (.aload_n 0, 1) := by decide +kernel
theorem dX9_layBest_73 : decode cX9_layBest 73 = .ok (.getfield 181, 3) := by decide +kernel
theorem dX9_layBest_76 : decode cX9_layBest 76 = .ok (.if_icmp .ge 25, 3) := by decide +kernel
theorem dX9_layBest_79 : decode cX9_layBest 79 = .ok (.aload_n 0, 1) := by decide +kernel
theorem dX9_layBest_80 : decode cX9_layBest 80 = .ok (.aload_n 0, 1) := by decide +kernel
theorem dX9_layBest_81 : decode cX9_layBest 81 = .ok (.bipush 10, 2) := by decide +kernel
theorem dX9_layBest_83 : decode cX9_layBest 83 = .ok (.invokevirtual 169, 3) := by decide +kernel
theorem dX9_layBest_86 : decode cX9_layBest 86 = .ok (.putfield 181, 3) := by decide +kernel
theorem dX9_layBest_89 : decode cX9_layBest 89 = .ok (.aload_n 0, 1) := by decide +kernel
theorem dX9_layBest_90 : decode cX9_layBest 90 = .ok (.iconst 1, 1) := by decide +kernel
theorem dX9_layBest_91 : decode cX9_layBest 91 = .ok (.putfield 178, 3) := by decide +kernel
theorem dX9_layBest_94 : decode cX9_layBest 94 = .ok (.aload_n 0, 1) := by decide +kernel
theorem dX9_layBest_95 : decode cX9_layBest 95 = .ok (.getfield 52, 3) := by decide +kernel
theorem dX9_layBest_98 : decode cX9_layBest 98 = .ok (.iconst 0, 1) := by decide +kernel
theorem dX9_layBest_99 : decode cX9_layBest 99 = .ok (.iload_n 2, 1) := by decide +kernel
theorem dX9_layBest_100 : decode cX9_layBest 100 = .ok (.iastore, 1) := by decide +kernel
theorem dX9_layBest_101 : decode cX9_layBest 101 = .ok (.iinc 2 1, 3) := by decide +kernel
theorem dX9_layBest_104 : decode cX9_layBest 104 = .ok (.goto (-88), 3) := by decide +kernel
theorem dX9_layBest_107 : decode cX9_layBest 107 = .ok (.iconst 0, 1) := by decide +kernel
theorem dX9_layBest_108 : decode cX9_layBest 108 = .ok (.istore_n 2, 1) := by decide +kernel
theorem dX9_layBest_109 : decode cX9_layBest 109 = .ok (.iload_n 2, 1) := by decide +kernel
theorem dX9_layBest_110 : decode cX9_layBest 110 = .ok (.bipush 10, 2) := by decide +kernel
theorem dX9_layBest_112 : decode cX9_layBest 112 = .ok (.aload_n 0, 1) := by decide +kernel
theorem dX9_layBest_113 : decode cX9_layBest 113 = .ok (.getfield 114, 3) := by decide +kernel
theorem dX9_layBest_116 : decode cX9_layBest 116 = .ok (.imul, 1) := by decide +kernel
theorem dX9_layBest_117 : decode cX9_layBest 117 = .ok (.if_icmp .ge 54, 3) := by decide +kernel
theorem dX9_layBest_120 : decode cX9_layBest 120 = .ok (.iload_n 1, 1) := by decide +kernel
theorem dX9_layBest_121 : decode cX9_layBest 121 = .ok (.iconst 1, 1) := by decide +kernel
theorem dX9_layBest_122 : decode cX9_layBest 122 = .ok (.if_icmp .le 49, 3) := by decide +kernel
theorem dX9_layBest_125 : decode cX9_layBest 125 = .ok (.aload_n 0, 1) := by decide +kernel
theorem dX9_layBest_126 : decode cX9_layBest 126 = .ok (.iconst 0, 1) := by decide +kernel
theorem dX9_layBest_127 : decode cX9_layBest 127 = .ok (.bipush 10, 2) := by decide +kernel
theorem dX9_layBest_129 : decode cX9_layBest 129 = .ok (.invokevirtual 162, 3) := by decide +kernel
theorem dX9_layBest_132 : decode cX9_layBest 132 = .ok (.iload_n 2, 1) := by decide +kernel
theorem dX9_layBest_133 : decode cX9_layBest 133 = .ok (.bipush 10, 2) := by decide +kernel
theorem dX9_layBest_135 : decode cX9_layBest 135 = .ok (.irem, 1) := by decide +kernel
theorem dX9_layBest_136 : decode cX9_layBest 136 = .ok (.aload_n 0, 1) := by decide +kernel
theorem dX9_layBest_137 : decode cX9_layBest 137 = .ok (.getfield 114, 3) := by decide +kernel
theorem dX9_layBest_140 : decode cX9_layBest 140 = .ok (.if_icmp .ge 25, 3) := by decide +kernel
theorem dX9_layBest_143 : decode cX9_layBest 143 = .ok (.aload_n 0, 1) := by decide +kernel
theorem dX9_layBest_144 : decode cX9_layBest 144 = .ok (.bipush 10, 2) := by decide +kernel
theorem dX9_layBest_146 : decode cX9_layBest 146 = .ok (.iload_n 2, 1) := by decide +kernel
theorem dX9_layBest_147 : decode cX9_layBest 147 = .ok (.bipush 10, 2) := by decide +kernel
theorem dX9_layBest_149 : decode cX9_layBest 149 = .ok (.idiv, 1) := by decide +kernel
theorem dX9_layBest_150 : decode cX9_layBest 150 = .ok (.iload_n 2, 1) := by decide +kernel
theorem dX9_layBest_151 : decode cX9_layBest 151 = .ok (.bipush 10, 2) := by decide +kernel
theorem dX9_layBest_153 : decode cX9_layBest 153 = .ok (.irem, 1) := by decide +kernel
theorem dX9_layBest_154 : decode cX9_layBest 154 = .ok (.invokevirtual 166, 3) := by decide +kernel
theorem dX9_layBest_157 : decode cX9_layBest 157 = .ok (.ifCond .eq 8, 3) := by decide +kernel
theorem dX9_layBest_160 : decode cX9_layBest 160 = .ok (.aload_n 0, 1) := by decide +kernel
theorem dX9_layBest_161 : decode cX9_layBest 161 = .ok (.iload_n 2, 1) := by decide +kernel
theorem dX9_layBest_162 : decode cX9_layBest 162 = .ok (.invokevirtual 184, 3) := by decide +kernel
theorem dX9_layBest_165 : decode cX9_layBest 165 = .ok (.iinc 2 1, 3) := by decide +kernel
theorem dX9_layBest_168 : decode cX9_layBest 168 = .ok (.goto (-59), 3) := by decide +kernel
theorem dX9_layBest_171 : decode cX9_layBest 171 = .ok (.return_, 1) := by decide +kernel
set_option maxRecDepth 20000 in
theorem ggX9_laySecond_X9_copy : GoodIn wsX9_laySecond wsX9_copy := goodIn_r _ [9, 10, 11, 12, 44, 45, 46, 47, 48, 49, 50, 51, 52, 53, 54, 55, 56, 57, 58, 59, 60, 61, 62, 63, 64, 65, 66, 67, 68, 69, 70, 71, 72, 73, 74, 75, 76, 77, 78] (by decide +kernel) (by decide +kernel)
set_option maxRecDepth 20000 in
theorem gX9_laySecond_X9_copy : GoodIn wsX9_laySecond (wsV RX9 162 RX9 yX9_copy wsX9_copy) := goodIn_app (goodIn_of _ (by decide +kernel)) ggX9_laySecond_X9_copy
set_option maxRecDepth 20000 in
theorem ggX9_laySecond_X9_goes : GoodIn wsX9_laySecond wsX9_goes := goodIn_r _ [16, 10, 11, 17, 18, 19, 20, 8, 21, 22, 23, 24, 25, 1, 26, 27, 28, 29, 30, 31, 32, 33, 34, 44, 45, 46, 47, 48, 49, 50, 51, 52, 53, 54, 55, 56, 57, 58, 59, 60, 61, 62, 63, 64, 65, 66, 67, 68, 69, 70, 71, 72, 73, 74, 75, 76, 77, 78] (by decide +kernel) (by decide +kernel)
set_option maxRecDepth 20000 in
theorem gX9_laySecond_X9_goes : GoodIn wsX9_laySecond (wsV RX9 166 RX9 yX9_goes wsX9_goes) := goodIn_app (goodIn_of _ (by decide +kernel)) ggX9_laySecond_X9_goes
set_option maxRecDepth 20000 in
theorem ggX9_laySecond_X9_leakOf : GoodIn wsX9_laySecond wsX9_leakOf := goodIn_r _ [38, 1, 39, 40, 41, 42, 8, 43, 22, 23, 24, 25, 10, 44, 45, 46, 47, 48, 49, 50, 51, 52, 53, 54, 55, 56, 57, 58, 59, 60, 61, 62, 63, 64, 65, 66, 67, 68, 69, 70, 71, 72, 73, 74, 75, 76, 77, 78] (by decide +kernel) (by decide +kernel)
set_option maxRecDepth 20000 in
theorem gX9_laySecond_X9_leakOf : GoodIn wsX9_laySecond (wsV RX9 169 RX9 yX9_leakOf wsX9_leakOf) := goodIn_app (goodIn_of _ (by decide +kernel)) ggX9_laySecond_X9_leakOf
theorem dX9_laySecond_0 : decode cX9_laySecond 0 = .ok (.iconst 0, 1) := by decide +kernel
theorem dX9_laySecond_1 : decode cX9_laySecond 1 = .ok (.istore_n 2, 1) := by decide +kernel
theorem dX9_laySecond_2 : decode cX9_laySecond 2 = .ok (.iload_n 2, 1) := by decide +kernel
theorem dX9_laySecond_3 : decode cX9_laySecond 3 = .ok (.bipush 10, 2) := by decide +kernel
theorem dX9_laySecond_5 : decode cX9_laySecond 5 = .ok (.aload_n 0, 1) := by decide +kernel
theorem dX9_laySecond_6 : decode cX9_laySecond 6 = .ok (.getfield 114, 3) := by decide +kernel
theorem dX9_laySecond_9 : decode cX9_laySecond 9 = .ok (.imul, 1) := by decide +kernel
theorem dX9_laySecond_10 : decode cX9_laySecond 10 = .ok (.if_icmp .ge 87, 3) := by decide +kernel
theorem dX9_laySecond_13 : decode cX9_laySecond 13 = .ok (.aload_n 0, 1) := by decide +kernel
theorem dX9_laySecond_14 : decode cX9_laySecond 14 = .ok (.bipush 10, 2) := by decide +kernel
theorem dX9_laySecond_16 : decode cX9_laySecond 16 = .ok (.bipush 20, 2) := by decide +kernel
theorem dX9_laySecond_18 : decode cX9_laySecond 18 = .ok (.invokevirtual 162, 3) := by decide +kernel
theorem dX9_laySecond_21 : decode cX9_laySecond 21 = .ok (.iload_n 2, 1) := by decide +kernel
theorem dX9_laySecond_22 : decode cX9_laySecond 22 = .ok (.bipush 10, 2) := by decide +kernel
theorem dX9_laySecond_24 : decode cX9_laySecond 24 = .ok (.irem, 1) := by decide +kernel
theorem dX9_laySecond_25 : decode cX9_laySecond 25 = .ok (.aload_n 0, 1) := by decide +kernel
theorem dX9_laySecond_26 : decode cX9_laySecond 26 = .ok (.getfield 114, 3) := by decide +kernel
theorem dX9_laySecond_29 : decode cX9_laySecond 29 = .ok (.if_icmp .ge 62, 3) := by decide +kernel
theorem dX9_laySecond_32 : decode cX9_laySecond 32 = .ok (.aload_n 0, 1) := by decide +kernel
theorem dX9_laySecond_33 : decode cX9_laySecond 33 = .ok (.bipush 20, 2) := by decide +kernel
theorem dX9_laySecond_35 : decode cX9_laySecond 35 = .ok (.iload_n 2, 1) := by decide +kernel
theorem dX9_laySecond_36 : decode cX9_laySecond 36 = .ok (.bipush 10, 2) := by decide +kernel
theorem dX9_laySecond_38 : decode cX9_laySecond 38 = .ok (.idiv, 1) := by decide +kernel
theorem dX9_laySecond_39 : decode cX9_laySecond 39 = .ok (.iload_n 2, 1) := by decide +kernel
theorem dX9_laySecond_40 : decode cX9_laySecond 40 = .ok (.bipush 10, 2) := by decide +kernel
theorem dX9_laySecond_42 : decode cX9_laySecond 42 = .ok (.irem, 1) := by decide +kernel
theorem dX9_laySecond_43 : decode cX9_laySecond 43 = .ok (.invokevirtual 166, 3) := by decide +kernel
theorem dX9_laySecond_46 : decode cX9_laySecond 46 = .ok (.ifCond .eq 45, 3) := by decide +kernel
theorem dX9_laySecond_49 : decode cX9_laySecond 49 = .ok (.aload_n 0, 1) := by decide +kernel
theorem dX9_laySecond_50 : decode cX9_laySecond 50 = .ok (.bipush 20, 2) := by decide +kernel
theorem dX9_laySecond_52 : decode cX9_laySecond 52 = .ok (.invokevirtual 169, 3) := by decide +kernel
theorem dX9_laySecond_55 : decode cX9_laySecond 55 = .ok (.aload_n 0, 1) := by decide +kernel
theorem dX9_laySecond_56 : decode cX9_laySecond 56 = .ok (.getfield 181, 3) := by decide +kernel
theorem dX9_laySecond_59 : decode cX9_laySecond 59 = .ok (.if_icmp .ge 32, 3) := by decide +kernel
theorem dX9_laySecond_62 : decode cX9_laySecond 62 = .ok (.aload_n 0, 1) := by decide +kernel
theorem dX9_laySecond_63 : decode cX9_laySecond 63 = .ok (.aload_n 0, 1) := by decide +kernel
theorem dX9_laySecond_64 : decode cX9_laySecond 64 = .ok (.bipush 20, 2) := by decide +kernel
theorem dX9_laySecond_66 : decode cX9_laySecond 66 = .ok (.invokevirtual 169, 3) := by decide +kernel
theorem dX9_laySecond_69 : decode cX9_laySecond 69 = .ok (.putfield 181, 3) := by decide +kernel
theorem dX9_laySecond_72 : decode cX9_laySecond 72 = .ok (.aload_n 0, 1) := by decide +kernel
theorem dX9_laySecond_73 : decode cX9_laySecond 73 = .ok (.iconst 2, 1) := by decide +kernel
theorem dX9_laySecond_74 : decode cX9_laySecond 74 = .ok (.putfield 178, 3) := by decide +kernel
theorem dX9_laySecond_77 : decode cX9_laySecond 77 = .ok (.aload_n 0, 1) := by decide +kernel
theorem dX9_laySecond_78 : decode cX9_laySecond 78 = .ok (.getfield 52, 3) := by decide +kernel
theorem dX9_laySecond_81 : decode cX9_laySecond 81 = .ok (.iconst 0, 1) := by decide +kernel
theorem dX9_laySecond_82 : decode cX9_laySecond 82 = .ok (.iload_n 1, 1) := by decide +kernel
theorem dX9_laySecond_83 : decode cX9_laySecond 83 = .ok (.iastore, 1) := by decide +kernel
theorem dX9_laySecond_84 : decode cX9_laySecond 84 = .ok (.aload_n 0, 1) := by decide +kernel
theorem dX9_laySecond_85 : decode cX9_laySecond 85 = .ok (.getfield 52, 3) := by decide +kernel
theorem dX9_laySecond_88 : decode cX9_laySecond 88 = .ok (.iconst 1, 1) := by decide +kernel
theorem dX9_laySecond_89 : decode cX9_laySecond 89 = .ok (.iload_n 2, 1) := by decide +kernel
theorem dX9_laySecond_90 : decode cX9_laySecond 90 = .ok (.iastore, 1) := by decide +kernel
theorem dX9_laySecond_91 : decode cX9_laySecond 91 = .ok (.iinc 2 1, 3) := by decide +kernel
theorem dX9_laySecond_94 : decode cX9_laySecond 94 = .ok (.goto (-92), 3) := by decide +kernel
theorem dX9_laySecond_97 : decode cX9_laySecond 97 = .ok (.return_, 1) := by decide +kernel
set_option maxRecDepth 20000 in
theorem ggX9_best_X9_in : GoodIn wsX9_best wsX9_in := goodIn_r _ [7] (by decide +kernel) (by decide +kernel)
set_option maxRecDepth 20000 in
theorem gX9_best_X9_in : GoodIn wsX9_best (va_wsS RX9 78 yX9_in wsX9_in) := goodIn_app (goodIn_of _ (by decide +kernel)) ggX9_best_X9_in
set_option maxRecDepth 20000 in
theorem ggX9_best_X9_layBest : GoodIn wsX9_best wsX9_layBest := goodIn_r _ [11, 12, 3, 13, 14, 15, 16, 17, 6, 18, 19, 20, 21, 22, 23, 24, 25, 26, 27, 28, 29, 30, 31, 32, 33, 34, 35, 36, 37, 38, 39, 40, 41, 42, 43, 44, 45, 46, 47, 48, 49, 50, 51, 52, 53, 54, 55, 56, 57, 58, 59, 60, 61, 62, 63, 64, 65, 66, 67, 68, 69, 70, 71, 72, 73, 74, 75, 76, 77, 78, 79, 80, 81, 82, 83, 84, 85, 86, 87, 88, 89, 90, 91] (by decide +kernel) (by decide +kernel)
set_option maxRecDepth 20000 in
theorem gX9_best_X9_layBest : GoodIn wsX9_best (wsV RX9 189 RX9 yX9_layBest wsX9_layBest) := goodIn_app (goodIn_of _ (by decide +kernel)) ggX9_best_X9_layBest
theorem dX9_best_0 : decode cX9_best 0 = .ok (.iload_n 1, 1) := by decide +kernel
theorem dX9_best_1 : decode cX9_best 1 = .ok (.i2l, 1) := by decide +kernel
theorem dX9_best_2 : decode cX9_best 2 = .ok (.lconst 0, 1) := by decide +kernel
theorem dX9_best_3 : decode cX9_best 3 = .ok (.ldc2_w 187, 3) := by decide +kernel
theorem dX9_best_6 : decode cX9_best 6 = .ok (.invokestatic 78, 3) := by decide +kernel
theorem dX9_best_9 : decode cX9_best 9 = .ok (.ifCond .ne 6, 3) := by decide +kernel
theorem dX9_best_12 : decode cX9_best 12 = .ok (.bipush (-2), 2) := by decide +kernel
theorem dX9_best_14 : decode cX9_best 14 = .ok (.ireturn, 1) := by decide +kernel
theorem dX9_best_15 : decode cX9_best 15 = .ok (.aload_n 0, 1) := by decide +kernel
theorem dX9_best_16 : decode cX9_best 16 = .ok (.getfield 123, 3) := by decide +kernel
theorem dX9_best_19 : decode cX9_best 19 = .ok (.ifCond .eq 6, 3) := by decide +kernel
theorem dX9_best_22 : decode cX9_best 22 = .ok (.bipush (-3), 2) := by decide +kernel
theorem dX9_best_24 : decode cX9_best 24 = .ok (.ireturn, 1) := by decide +kernel
theorem dX9_best_25 : decode cX9_best 25 = .ok (.aload_n 0, 1) := by decide +kernel
theorem dX9_best_26 : decode cX9_best 26 = .ok (.iload_n 1, 1) := by decide +kernel
theorem dX9_best_27 : decode cX9_best 27 = .ok (.invokevirtual 189, 3) := by decide +kernel
theorem dX9_best_30 : decode cX9_best 30 = .ok (.aload_n 0, 1) := by decide +kernel
theorem dX9_best_31 : decode cX9_best 31 = .ok (.getfield 181, 3) := by decide +kernel
theorem dX9_best_34 : decode cX9_best 34 = .ok (.ireturn, 1) := by decide +kernel
set_option maxRecDepth 20000 in
theorem ggX9_bestAt_X9_in : GoodIn wsX9_bestAt wsX9_in := goodIn_r _ [8] (by decide +kernel) (by decide +kernel)
set_option maxRecDepth 20000 in
theorem gX9_bestAt_X9_in : GoodIn wsX9_bestAt (va_wsS RX9 78 yX9_in wsX9_in) := goodIn_app (goodIn_of _ (by decide +kernel)) ggX9_bestAt_X9_in
set_option maxRecDepth 20000 in
theorem ggX9_bestAt_X9_layBest : GoodIn wsX9_bestAt wsX9_layBest := goodIn_r _ [12, 3, 13, 14, 4, 15, 16, 17, 7, 18, 19, 20, 21, 22, 23, 24, 25, 26, 27, 28, 29, 30, 31, 32, 33, 34, 35, 36, 37, 38, 39, 40, 41, 42, 43, 44, 45, 46, 47, 48, 49, 50, 51, 52, 53, 54, 55, 56, 57, 58, 59, 60, 61, 62, 63, 64, 65, 66, 67, 68, 69, 70, 71, 72, 73, 74, 75, 76, 77, 78, 79, 80, 81, 82, 83, 84, 85, 86, 87, 88, 89, 90, 91] (by decide +kernel) (by decide +kernel)
set_option maxRecDepth 20000 in
theorem gX9_bestAt_X9_layBest : GoodIn wsX9_bestAt (wsV RX9 189 RX9 yX9_layBest wsX9_layBest) := goodIn_app (goodIn_of _ (by decide +kernel)) ggX9_bestAt_X9_layBest
theorem dX9_bestAt_0 : decode cX9_bestAt 0 = .ok (.iload_n 1, 1) := by decide +kernel
theorem dX9_bestAt_1 : decode cX9_bestAt 1 = .ok (.i2l, 1) := by decide +kernel
theorem dX9_bestAt_2 : decode cX9_bestAt 2 = .ok (.lconst 0, 1) := by decide +kernel
theorem dX9_bestAt_3 : decode cX9_bestAt 3 = .ok (.ldc2_w 187, 3) := by decide +kernel
theorem dX9_bestAt_6 : decode cX9_bestAt 6 = .ok (.invokestatic 78, 3) := by decide +kernel
theorem dX9_bestAt_9 : decode cX9_bestAt 9 = .ok (.ifCond .ne 6, 3) := by decide +kernel
theorem dX9_bestAt_12 : decode cX9_bestAt 12 = .ok (.bipush (-2), 2) := by decide +kernel
theorem dX9_bestAt_14 : decode cX9_bestAt 14 = .ok (.ireturn, 1) := by decide +kernel
theorem dX9_bestAt_15 : decode cX9_bestAt 15 = .ok (.aload_n 0, 1) := by decide +kernel
theorem dX9_bestAt_16 : decode cX9_bestAt 16 = .ok (.getfield 123, 3) := by decide +kernel
theorem dX9_bestAt_19 : decode cX9_bestAt 19 = .ok (.ifCond .eq 6, 3) := by decide +kernel
theorem dX9_bestAt_22 : decode cX9_bestAt 22 = .ok (.bipush (-3), 2) := by decide +kernel
theorem dX9_bestAt_24 : decode cX9_bestAt 24 = .ok (.ireturn, 1) := by decide +kernel
theorem dX9_bestAt_25 : decode cX9_bestAt 25 = .ok (.aload_n 0, 1) := by decide +kernel
theorem dX9_bestAt_26 : decode cX9_bestAt 26 = .ok (.iload_n 1, 1) := by decide +kernel
theorem dX9_bestAt_27 : decode cX9_bestAt 27 = .ok (.invokevirtual 189, 3) := by decide +kernel
theorem dX9_bestAt_30 : decode cX9_bestAt 30 = .ok (.iload_n 2, 1) := by decide +kernel
theorem dX9_bestAt_31 : decode cX9_bestAt 31 = .ok (.i2l, 1) := by decide +kernel
theorem dX9_bestAt_32 : decode cX9_bestAt 32 = .ok (.lconst 0, 1) := by decide +kernel
theorem dX9_bestAt_33 : decode cX9_bestAt 33 = .ok (.aload_n 0, 1) := by decide +kernel
theorem dX9_bestAt_34 : decode cX9_bestAt 34 = .ok (.getfield 178, 3) := by decide +kernel
theorem dX9_bestAt_37 : decode cX9_bestAt 37 = .ok (.iconst 1, 1) := by decide +kernel
theorem dX9_bestAt_38 : decode cX9_bestAt 38 = .ok (.isub, 1) := by decide +kernel
theorem dX9_bestAt_39 : decode cX9_bestAt 39 = .ok (.i2l, 1) := by decide +kernel
theorem dX9_bestAt_40 : decode cX9_bestAt 40 = .ok (.invokestatic 78, 3) := by decide +kernel
theorem dX9_bestAt_43 : decode cX9_bestAt 43 = .ok (.ifCond .eq 12, 3) := by decide +kernel
theorem dX9_bestAt_46 : decode cX9_bestAt 46 = .ok (.aload_n 0, 1) := by decide +kernel
theorem dX9_bestAt_47 : decode cX9_bestAt 47 = .ok (.getfield 52, 3) := by decide +kernel
theorem dX9_bestAt_50 : decode cX9_bestAt 50 = .ok (.iload_n 2, 1) := by decide +kernel
theorem dX9_bestAt_51 : decode cX9_bestAt 51 = .ok (.iaload, 1) := by decide +kernel
theorem dX9_bestAt_52 : decode cX9_bestAt 52 = .ok (.goto 5, 3) := by decide +kernel
theorem dX9_bestAt_55 : decode cX9_bestAt 55 = .ok (.bipush (-9), 2) := by decide +kernel
theorem dX9_bestAt_57 : decode cX9_bestAt 57 = .ok (.ireturn, 1) := by decide +kernel
set_option maxRecDepth 20000 in
theorem ggX9_layPort_X9_floatsOf : GoodIn wsX9_layPort wsX9_floatsOf := goodIn_r _ [7, 8, 9, 10, 11, 12, 13, 14, 6, 15, 16, 17, 18, 19, 20, 21, 22, 1, 23, 24, 25, 26, 27, 28, 29, 30, 31, 32, 33, 34, 35, 36, 37, 38, 39, 40, 62, 63, 64, 65, 66, 67, 68, 69, 70, 71, 72, 73, 74, 75, 76, 77, 78, 79, 80, 81, 82, 83, 84, 85, 86, 87, 88, 89, 90, 91, 92, 93, 94, 95, 96] (by decide +kernel) (by decide +kernel)
set_option maxRecDepth 20000 in
theorem gX9_layPort_X9_floatsOf : GoodIn wsX9_layPort (wsV RX9 175 RX9 yX9_floatsOf wsX9_floatsOf) := goodIn_app (goodIn_of _ (by decide +kernel)) ggX9_layPort_X9_floatsOf
set_option maxRecDepth 20000 in
theorem ggX9_layPort_X9_copy : GoodIn wsX9_layPort wsX9_copy := goodIn_r _ [15, 16, 17, 18, 62, 63, 64, 65, 66, 67, 68, 69, 70, 71, 72, 73, 74, 75, 76, 77, 78, 79, 80, 81, 82, 83, 84, 85, 86, 87, 88, 89, 90, 91, 92, 93, 94, 95, 96] (by decide +kernel) (by decide +kernel)
set_option maxRecDepth 20000 in
theorem gX9_layPort_X9_copy : GoodIn wsX9_layPort (wsV RX9 162 RX9 yX9_copy wsX9_copy) := goodIn_app (goodIn_of _ (by decide +kernel)) ggX9_layPort_X9_copy
set_option maxRecDepth 20000 in
theorem ggX9_layPort_X9_goes : GoodIn wsX9_layPort wsX9_goes := goodIn_r _ [44, 16, 17, 45, 46, 47, 48, 6, 49, 28, 29, 30, 31, 1, 50, 51, 52, 53, 40, 54, 55, 56, 57, 62, 63, 64, 65, 66, 67, 68, 69, 70, 71, 72, 73, 74, 75, 76, 77, 78, 79, 80, 81, 82, 83, 84, 85, 86, 87, 88, 89, 90, 91, 92, 93, 94, 95, 96] (by decide +kernel) (by decide +kernel)
set_option maxRecDepth 20000 in
theorem gX9_layPort_X9_goes : GoodIn wsX9_layPort (wsV RX9 166 RX9 yX9_goes wsX9_goes) := goodIn_app (goodIn_of _ (by decide +kernel)) ggX9_layPort_X9_goes
set_option maxRecDepth 20000 in
theorem ggX9_layPort_X9_isPort : GoodIn wsX9_layPort wsX9_isPort := goodIn_r _ [61, 1, 2, 12, 13, 14, 6, 15, 16, 17, 18, 41, 42, 43, 44, 45, 46, 47, 48, 49, 28, 29, 30, 31, 50, 51, 52, 53, 40, 54, 55, 56, 57, 3, 4, 5, 7, 8, 9, 10, 11, 19, 20, 21, 22, 23, 24, 25, 26, 27, 32, 33, 34, 35, 36, 37, 38, 39, 62, 63, 64, 65, 66, 67, 68, 69, 70, 71, 72, 73, 74, 75, 76, 77, 78, 79, 80, 81, 82, 83, 84, 85, 86, 87, 88, 89, 90, 91, 92, 93, 94, 95, 96] (by decide +kernel) (by decide +kernel)
set_option maxRecDepth 20000 in
theorem gX9_layPort_X9_isPort : GoodIn wsX9_layPort (wsV RX9 192 RX9 yX9_isPort wsX9_isPort) := goodIn_app (goodIn_of _ (by decide +kernel)) ggX9_layPort_X9_isPort
theorem dX9_layPort_0 : decode cX9_layPort 0 = .ok (.aload_n 0, 1) := by decide +kernel
theorem dX9_layPort_1 : decode cX9_layPort 1 = .ok (.iconst 0, 1) := by decide +kernel
theorem dX9_layPort_2 : decode cX9_layPort 2 = .ok (.bipush 50, 2) := by decide +kernel
theorem dX9_layPort_4 : decode cX9_layPort 4 = .ok (.invokevirtual 175, 3) := by decide +kernel
theorem dX9_layPort_7 : decode cX9_layPort 7 = .ok (.iload_n 1, 1) := by decide +kernel
theorem dX9_layPort_8 : decode cX9_layPort 8 = .ok (.if_icmp .lt 5, 3) := by decide +kernel
theorem dX9_layPort_11 : decode cX9_layPort 11 = .ok (.iconst 0, 1) := by decide +kernel
theorem dX9_layPort_12 : decode cX9_layPort 12 = .ok (.ireturn, 1) := by decide +kernel
theorem dX9_layPort_13 : decode cX9_layPort 13 = .ok (.iconst 0, 1) := by decide +kernel
theorem dX9_layPort_14 : decode cX9_layPort 14 = .ok (.istore_n 2, 1) := by decide +kernel
theorem dX9_layPort_15 : decode cX9_layPort 15 = .ok (.iload_n 2, 1) := by decide +kernel
theorem dX9_layPort_16 : decode cX9_layPort 16 = .ok (.bipush 10, 2) := by decide +kernel
theorem dX9_layPort_18 : decode cX9_layPort 18 = .ok (.aload_n 0, 1) := by decide +kernel
theorem dX9_layPort_19 : decode cX9_layPort 19 = .ok (.getfield 114, 3) := by decide +kernel
theorem dX9_layPort_22 : decode cX9_layPort 22 = .ok (.imul, 1) := by decide +kernel
theorem dX9_layPort_23 : decode cX9_layPort 23 = .ok (.if_icmp .ge 65, 3) := by decide +kernel
theorem dX9_layPort_26 : decode cX9_layPort 26 = .ok (.aload_n 0, 1) := by decide +kernel
theorem dX9_layPort_27 : decode cX9_layPort 27 = .ok (.iconst 0, 1) := by decide +kernel
theorem dX9_layPort_28 : decode cX9_layPort 28 = .ok (.bipush 10, 2) := by decide +kernel
theorem dX9_layPort_30 : decode cX9_layPort 30 = .ok (.invokevirtual 162, 3) := by decide +kernel
theorem dX9_layPort_33 : decode cX9_layPort 33 = .ok (.iload_n 2, 1) := by decide +kernel
theorem dX9_layPort_34 : decode cX9_layPort 34 = .ok (.bipush 10, 2) := by decide +kernel
theorem dX9_layPort_36 : decode cX9_layPort 36 = .ok (.irem, 1) := by decide +kernel
theorem dX9_layPort_37 : decode cX9_layPort 37 = .ok (.aload_n 0, 1) := by decide +kernel
theorem dX9_layPort_38 : decode cX9_layPort 38 = .ok (.getfield 114, 3) := by decide +kernel
theorem dX9_layPort_41 : decode cX9_layPort 41 = .ok (.if_icmp .ge 41, 3) := by decide +kernel
theorem dX9_layPort_44 : decode cX9_layPort 44 = .ok (.aload_n 0, 1) := by decide +kernel
theorem dX9_layPort_45 : decode cX9_layPort 45 = .ok (.bipush 10, 2) := by decide +kernel
theorem dX9_layPort_47 : decode cX9_layPort 47 = .ok (.iload_n 2, 1) := by decide +kernel
theorem dX9_layPort_48 : decode cX9_layPort 48 = .ok (.bipush 10, 2) := by decide +kernel
theorem dX9_layPort_50 : decode cX9_layPort 50 = .ok (.idiv, 1) := by decide +kernel
theorem dX9_layPort_51 : decode cX9_layPort 51 = .ok (.iload_n 2, 1) := by decide +kernel
theorem dX9_layPort_52 : decode cX9_layPort 52 = .ok (.bipush 10, 2) := by decide +kernel
theorem dX9_layPort_54 : decode cX9_layPort 54 = .ok (.irem, 1) := by decide +kernel
theorem dX9_layPort_55 : decode cX9_layPort 55 = .ok (.invokevirtual 166, 3) := by decide +kernel
theorem dX9_layPort_58 : decode cX9_layPort 58 = .ok (.ifCond .eq 24, 3) := by decide +kernel
theorem dX9_layPort_61 : decode cX9_layPort 61 = .ok (.aload_n 0, 1) := by decide +kernel
theorem dX9_layPort_62 : decode cX9_layPort 62 = .ok (.bipush 10, 2) := by decide +kernel
theorem dX9_layPort_64 : decode cX9_layPort 64 = .ok (.bipush 50, 2) := by decide +kernel
theorem dX9_layPort_66 : decode cX9_layPort 66 = .ok (.invokevirtual 175, 3) := by decide +kernel
theorem dX9_layPort_69 : decode cX9_layPort 69 = .ok (.iload_n 1, 1) := by decide +kernel
theorem dX9_layPort_70 : decode cX9_layPort 70 = .ok (.if_icmp .lt 12, 3) := by decide +kernel
theorem dX9_layPort_73 : decode cX9_layPort 73 = .ok (.aload_n 0, 1) := by decide +kernel
theorem dX9_layPort_74 : decode cX9_layPort 74 = .ok (.getfield 52, 3) := by decide +kernel
theorem dX9_layPort_77 : decode cX9_layPort 77 = .ok (.iconst 0, 1) := by decide +kernel
theorem dX9_layPort_78 : decode cX9_layPort 78 = .ok (.iload_n 2, 1) := by decide +kernel
theorem dX9_layPort_79 : decode cX9_layPort 79 = .ok (.iastore, 1) := by decide +kernel
theorem dX9_layPort_80 : decode cX9_layPort 80 = .ok (.iconst 1, 1) := by decide +kernel
theorem dX9_layPort_81 : decode cX9_layPort 81 = .ok (.ireturn, 1) := by decide +kernel
theorem dX9_layPort_82 : decode cX9_layPort 82 = .ok (.iinc 2 1, 3) := by decide +kernel
theorem dX9_layPort_85 : decode cX9_layPort 85 = .ok (.goto (-70), 3) := by decide +kernel
theorem dX9_layPort_88 : decode cX9_layPort 88 = .ok (.iconst 0, 1) := by decide +kernel
theorem dX9_layPort_89 : decode cX9_layPort 89 = .ok (.istore_n 2, 1) := by decide +kernel
theorem dX9_layPort_90 : decode cX9_layPort 90 = .ok (.iload_n 2, 1) := by decide +kernel
theorem dX9_layPort_91 : decode cX9_layPort 91 = .ok (.bipush 10, 2) := by decide +kernel
theorem dX9_layPort_93 : decode cX9_layPort 93 = .ok (.aload_n 0, 1) := by decide +kernel
theorem dX9_layPort_94 : decode cX9_layPort 94 = .ok (.getfield 114, 3) := by decide +kernel
theorem dX9_layPort_97 : decode cX9_layPort 97 = .ok (.imul, 1) := by decide +kernel
theorem dX9_layPort_98 : decode cX9_layPort 98 = .ok (.if_icmp .ge 61, 3) := by decide +kernel
theorem dX9_layPort_101 : decode cX9_layPort 101 = .ok (.aload_n 0, 1) := by decide +kernel
theorem dX9_layPort_102 : decode cX9_layPort 102 = .ok (.iconst 0, 1) := by decide +kernel
theorem dX9_layPort_103 : decode cX9_layPort 103 = .ok (.bipush 10, 2) := by decide +kernel
theorem dX9_layPort_105 : decode cX9_layPort 105 = .ok (.invokevirtual 162, 3) := by decide +kernel
theorem dX9_layPort_108 : decode cX9_layPort 108 = .ok (.iload_n 2, 1) := by decide +kernel
theorem dX9_layPort_109 : decode cX9_layPort 109 = .ok (.bipush 10, 2) := by decide +kernel
theorem dX9_layPort_111 : decode cX9_layPort 111 = .ok (.irem, 1) := by decide +kernel
theorem dX9_layPort_112 : decode cX9_layPort 112 = .ok (.aload_n 0, 1) := by decide +kernel
theorem dX9_layPort_113 : decode cX9_layPort 113 = .ok (.getfield 114, 3) := by decide +kernel
theorem dX9_layPort_116 : decode cX9_layPort 116 = .ok (.if_icmp .ge 37, 3) := by decide +kernel
theorem dX9_layPort_119 : decode cX9_layPort 119 = .ok (.aload_n 0, 1) := by decide +kernel
theorem dX9_layPort_120 : decode cX9_layPort 120 = .ok (.bipush 10, 2) := by decide +kernel
theorem dX9_layPort_122 : decode cX9_layPort 122 = .ok (.iload_n 2, 1) := by decide +kernel
theorem dX9_layPort_123 : decode cX9_layPort 123 = .ok (.bipush 10, 2) := by decide +kernel
theorem dX9_layPort_125 : decode cX9_layPort 125 = .ok (.idiv, 1) := by decide +kernel
theorem dX9_layPort_126 : decode cX9_layPort 126 = .ok (.iload_n 2, 1) := by decide +kernel
theorem dX9_layPort_127 : decode cX9_layPort 127 = .ok (.bipush 10, 2) := by decide +kernel
theorem dX9_layPort_129 : decode cX9_layPort 129 = .ok (.irem, 1) := by decide +kernel
theorem dX9_layPort_130 : decode cX9_layPort 130 = .ok (.invokevirtual 166, 3) := by decide +kernel
theorem dX9_layPort_133 : decode cX9_layPort 133 = .ok (.ifCond .eq 20, 3) := by decide +kernel
theorem dX9_layPort_136 : decode cX9_layPort 136 = .ok (.aload_n 0, 1) := by decide +kernel
theorem dX9_layPort_137 : decode cX9_layPort 137 = .ok (.iload_n 1, 1) := by decide +kernel
theorem dX9_layPort_138 : decode cX9_layPort 138 = .ok (.invokevirtual 192, 3) := by decide +kernel
theorem dX9_layPort_141 : decode cX9_layPort 141 = .ok (.ifCond .eq 12, 3) := by decide +kernel
theorem dX9_layPort_144 : decode cX9_layPort 144 = .ok (.aload_n 0, 1) := by decide +kernel
theorem dX9_layPort_145 : decode cX9_layPort 145 = .ok (.getfield 52, 3) := by decide +kernel
theorem dX9_layPort_148 : decode cX9_layPort 148 = .ok (.iconst 0, 1) := by decide +kernel
theorem dX9_layPort_149 : decode cX9_layPort 149 = .ok (.iload_n 2, 1) := by decide +kernel
theorem dX9_layPort_150 : decode cX9_layPort 150 = .ok (.iastore, 1) := by decide +kernel
theorem dX9_layPort_151 : decode cX9_layPort 151 = .ok (.iconst 2, 1) := by decide +kernel
theorem dX9_layPort_152 : decode cX9_layPort 152 = .ok (.ireturn, 1) := by decide +kernel
theorem dX9_layPort_153 : decode cX9_layPort 153 = .ok (.iinc 2 1, 3) := by decide +kernel
theorem dX9_layPort_156 : decode cX9_layPort 156 = .ok (.goto (-66), 3) := by decide +kernel
theorem dX9_layPort_159 : decode cX9_layPort 159 = .ok (.bipush (-9), 2) := by decide +kernel
theorem dX9_layPort_161 : decode cX9_layPort 161 = .ok (.ireturn, 1) := by decide +kernel
set_option maxRecDepth 20000 in
theorem ggX9_isPort_X9_copy : GoodIn wsX9_isPort wsX9_copy := goodIn_r _ [7, 8, 9, 10, 58, 59, 60, 61, 62, 63, 64, 65, 66, 67, 68, 69, 70, 71, 72, 73, 74, 75, 76, 77, 78, 79, 80, 81, 82, 83, 84, 85, 86, 87, 88, 89, 90, 91, 92] (by decide +kernel) (by decide +kernel)
set_option maxRecDepth 20000 in
theorem gX9_isPort_X9_copy : GoodIn wsX9_isPort (wsV RX9 162 RX9 yX9_copy wsX9_copy) := goodIn_app (goodIn_of _ (by decide +kernel)) ggX9_isPort_X9_copy
set_option maxRecDepth 20000 in
theorem ggX9_isPort_X9_goes : GoodIn wsX9_isPort wsX9_goes := goodIn_r _ [14, 8, 9, 15, 16, 17, 18, 6, 19, 20, 21, 22, 23, 1, 24, 25, 26, 27, 28, 29, 30, 31, 32, 58, 59, 60, 61, 62, 63, 64, 65, 66, 67, 68, 69, 70, 71, 72, 73, 74, 75, 76, 77, 78, 79, 80, 81, 82, 83, 84, 85, 86, 87, 88, 89, 90, 91, 92] (by decide +kernel) (by decide +kernel)
set_option maxRecDepth 20000 in
theorem gX9_isPort_X9_goes : GoodIn wsX9_isPort (wsV RX9 166 RX9 yX9_goes wsX9_goes) := goodIn_app (goodIn_of _ (by decide +kernel)) ggX9_isPort_X9_goes
set_option maxRecDepth 20000 in
theorem ggX9_isPort_X9_floatsOf : GoodIn wsX9_isPort wsX9_floatsOf := goodIn_r _ [36, 37, 38, 39, 40, 3, 4, 5, 6, 7, 8, 9, 10, 41, 42, 43, 44, 1, 45, 46, 47, 48, 49, 20, 21, 22, 23, 50, 51, 52, 53, 54, 55, 56, 57, 28, 58, 59, 60, 61, 62, 63, 64, 65, 66, 67, 68, 69, 70, 71, 72, 73, 74, 75, 76, 77, 78, 79, 80, 81, 82, 83, 84, 85, 86, 87, 88, 89, 90, 91, 92] (by decide +kernel) (by decide +kernel)
set_option maxRecDepth 20000 in
theorem gX9_isPort_X9_floatsOf : GoodIn wsX9_isPort (wsV RX9 175 RX9 yX9_floatsOf wsX9_floatsOf) := goodIn_app (goodIn_of _ (by decide +kernel)) ggX9_isPort_X9_floatsOf
theorem dX9_isPort_0 : decode cX9_isPort 0 = .ok (.iconst 0, 1) := by decide +kernel
theorem dX9_isPort_1 : decode cX9_isPort 1 = .ok (.istore_n 2, 1) := by decide +kernel
theorem dX9_isPort_2 : decode cX9_isPort 2 = .ok (.iload_n 2, 1) := by decide +kernel
theorem dX9_isPort_3 : decode cX9_isPort 3 = .ok (.bipush 10, 2) := by decide +kernel
theorem dX9_isPort_5 : decode cX9_isPort 5 = .ok (.aload_n 0, 1) := by decide +kernel
theorem dX9_isPort_6 : decode cX9_isPort 6 = .ok (.getfield 114, 3) := by decide +kernel
theorem dX9_isPort_9 : decode cX9_isPort 9 = .ok (.imul, 1) := by decide +kernel
theorem dX9_isPort_10 : decode cX9_isPort 10 = .ok (.if_icmp .ge 66, 3) := by decide +kernel
theorem dX9_isPort_13 : decode cX9_isPort 13 = .ok (.aload_n 0, 1) := by decide +kernel
theorem dX9_isPort_14 : decode cX9_isPort 14 = .ok (.bipush 10, 2) := by decide +kernel
theorem dX9_isPort_16 : decode cX9_isPort 16 = .ok (.bipush 20, 2) := by decide +kernel
theorem dX9_isPort_18 : decode cX9_isPort 18 = .ok (.invokevirtual 162, 3) := by decide +kernel
theorem dX9_isPort_21 : decode cX9_isPort 21 = .ok (.iload_n 2, 1) := by decide +kernel
theorem dX9_isPort_22 : decode cX9_isPort 22 = .ok (.bipush 10, 2) := by decide +kernel
theorem dX9_isPort_24 : decode cX9_isPort 24 = .ok (.irem, 1) := by decide +kernel
theorem dX9_isPort_25 : decode cX9_isPort 25 = .ok (.aload_n 0, 1) := by decide +kernel
theorem dX9_isPort_26 : decode cX9_isPort 26 = .ok (.getfield 114, 3) := by decide +kernel
theorem dX9_isPort_29 : decode cX9_isPort 29 = .ok (.if_icmp .ge 41, 3) := by decide +kernel
theorem dX9_isPort_32 : decode cX9_isPort 32 = .ok (.aload_n 0, 1) := by decide +kernel
theorem dX9_isPort_33 : decode cX9_isPort 33 = .ok (.bipush 20, 2) := by decide +kernel
theorem dX9_isPort_35 : decode cX9_isPort 35 = .ok (.iload_n 2, 1) := by decide +kernel
theorem dX9_isPort_36 : decode cX9_isPort 36 = .ok (.bipush 10, 2) := by decide +kernel
theorem dX9_isPort_38 : decode cX9_isPort 38 = .ok (.idiv, 1) := by decide +kernel
theorem dX9_isPort_39 : decode cX9_isPort 39 = .ok (.iload_n 2, 1) := by decide +kernel
theorem dX9_isPort_40 : decode cX9_isPort 40 = .ok (.bipush 10, 2) := by decide +kernel
theorem dX9_isPort_42 : decode cX9_isPort 42 = .ok (.irem, 1) := by decide +kernel
theorem dX9_isPort_43 : decode cX9_isPort 43 = .ok (.invokevirtual 166, 3) := by decide +kernel
theorem dX9_isPort_46 : decode cX9_isPort 46 = .ok (.ifCond .eq 24, 3) := by decide +kernel
theorem dX9_isPort_49 : decode cX9_isPort 49 = .ok (.aload_n 0, 1) := by decide +kernel
theorem dX9_isPort_50 : decode cX9_isPort 50 = .ok (.bipush 20, 2) := by decide +kernel
theorem dX9_isPort_52 : decode cX9_isPort 52 = .ok (.bipush 50, 2) := by decide +kernel
theorem dX9_isPort_54 : decode cX9_isPort 54 = .ok (.invokevirtual 175, 3) := by decide +kernel
theorem dX9_isPort_57 : decode cX9_isPort 57 = .ok (.iload_n 1, 1) := by decide +kernel
theorem dX9_isPort_58 : decode cX9_isPort 58 = .ok (.if_icmp .lt 12, 3) := by decide +kernel
theorem dX9_isPort_61 : decode cX9_isPort 61 = .ok (.aload_n 0, 1) := by decide +kernel
theorem dX9_isPort_62 : decode cX9_isPort 62 = .ok (.getfield 52, 3) := by decide +kernel
theorem dX9_isPort_65 : decode cX9_isPort 65 = .ok (.iconst 1, 1) := by decide +kernel
theorem dX9_isPort_66 : decode cX9_isPort 66 = .ok (.iload_n 2, 1) := by decide +kernel
theorem dX9_isPort_67 : decode cX9_isPort 67 = .ok (.iastore, 1) := by decide +kernel
theorem dX9_isPort_68 : decode cX9_isPort 68 = .ok (.iconst 1, 1) := by decide +kernel
theorem dX9_isPort_69 : decode cX9_isPort 69 = .ok (.ireturn, 1) := by decide +kernel
theorem dX9_isPort_70 : decode cX9_isPort 70 = .ok (.iinc 2 1, 3) := by decide +kernel
theorem dX9_isPort_73 : decode cX9_isPort 73 = .ok (.goto (-71), 3) := by decide +kernel
theorem dX9_isPort_76 : decode cX9_isPort 76 = .ok (.iconst 0, 1) := by decide +kernel
theorem dX9_isPort_77 : decode cX9_isPort 77 = .ok (.ireturn, 1) := by decide +kernel
set_option maxRecDepth 20000 in
theorem ggX9_port_X9_in : GoodIn wsX9_port wsX9_in := goodIn_r _ [6] (by decide +kernel) (by decide +kernel)
set_option maxRecDepth 20000 in
theorem gX9_port_X9_in : GoodIn wsX9_port (va_wsS RX9 78 yX9_in wsX9_in) := goodIn_app (goodIn_of _ (by decide +kernel)) ggX9_port_X9_in
set_option maxRecDepth 20000 in
theorem ggX9_port_X9_layPort : GoodIn wsX9_port wsX9_layPort := goodIn_r _ [10, 11, 12, 13, 14, 15, 5, 16, 2, 17, 18, 19, 20, 21, 22, 23, 24, 25, 26, 27, 28, 29, 30, 31, 32, 33, 34, 35, 36, 37, 38, 39, 40, 41, 42, 43, 44, 45, 46, 47, 48, 49, 50, 51, 52, 53, 54, 55, 56, 57, 58, 59, 60, 61, 62, 63, 64, 65, 66, 67, 68, 69, 70, 71, 72, 73, 74, 75, 76, 77, 78, 79, 80, 81, 82, 83, 84, 85, 86, 87, 88, 89, 90, 91, 92, 93, 94, 95, 96, 97, 98, 99, 100, 101, 102, 103, 104] (by decide +kernel) (by decide +kernel)
set_option maxRecDepth 20000 in
theorem gX9_port_X9_layPort : GoodIn wsX9_port (wsV RX9 197 RX9 yX9_layPort wsX9_layPort) := goodIn_app (goodIn_of _ (by decide +kernel)) ggX9_port_X9_layPort
theorem dX9_port_0 : decode cX9_port 0 = .ok (.iload_n 1, 1) := by decide +kernel
theorem dX9_port_1 : decode cX9_port 1 = .ok (.i2l, 1) := by decide +kernel
theorem dX9_port_2 : decode cX9_port 2 = .ok (.lconst 1, 1) := by decide +kernel
theorem dX9_port_3 : decode cX9_port 3 = .ok (.ldc2_w 195, 3) := by decide +kernel
theorem dX9_port_6 : decode cX9_port 6 = .ok (.invokestatic 78, 3) := by decide +kernel
theorem dX9_port_9 : decode cX9_port 9 = .ok (.ifCond .ne 6, 3) := by decide +kernel
theorem dX9_port_12 : decode cX9_port 12 = .ok (.bipush (-2), 2) := by decide +kernel
theorem dX9_port_14 : decode cX9_port 14 = .ok (.ireturn, 1) := by decide +kernel
theorem dX9_port_15 : decode cX9_port 15 = .ok (.aload_n 0, 1) := by decide +kernel
theorem dX9_port_16 : decode cX9_port 16 = .ok (.getfield 123, 3) := by decide +kernel
theorem dX9_port_19 : decode cX9_port 19 = .ok (.ifCond .eq 8, 3) := by decide +kernel
theorem dX9_port_22 : decode cX9_port 22 = .ok (.bipush (-3), 2) := by decide +kernel
theorem dX9_port_24 : decode cX9_port 24 = .ok (.goto 8, 3) := by decide +kernel
theorem dX9_port_27 : decode cX9_port 27 = .ok (.aload_n 0, 1) := by decide +kernel
theorem dX9_port_28 : decode cX9_port 28 = .ok (.iload_n 1, 1) := by decide +kernel
theorem dX9_port_29 : decode cX9_port 29 = .ok (.invokevirtual 197, 3) := by decide +kernel
theorem dX9_port_32 : decode cX9_port 32 = .ok (.ireturn, 1) := by decide +kernel
set_option maxRecDepth 20000 in
theorem ggX9_portAt_X9_in : GoodIn wsX9_portAt wsX9_in := goodIn_r _ [7] (by decide +kernel) (by decide +kernel)
set_option maxRecDepth 20000 in
theorem gX9_portAt_X9_in : GoodIn wsX9_portAt (va_wsS RX9 78 yX9_in wsX9_in) := goodIn_app (goodIn_of _ (by decide +kernel)) ggX9_portAt_X9_in
set_option maxRecDepth 20000 in
theorem ggX9_portAt_X9_layPort : GoodIn wsX9_portAt wsX9_layPort := goodIn_r _ [11, 12, 3, 13, 14, 15, 6, 16, 2, 17, 18, 19, 20, 21, 22, 23, 24, 25, 26, 27, 28, 29, 30, 31, 32, 33, 34, 35, 36, 37, 38, 39, 40, 41, 42, 43, 44, 45, 46, 47, 48, 49, 50, 51, 52, 53, 54, 55, 56, 57, 58, 59, 60, 61, 62, 63, 64, 65, 66, 67, 68, 69, 70, 71, 72, 73, 74, 75, 76, 77, 78, 79, 80, 81, 82, 83, 84, 85, 86, 87, 88, 89, 90, 91, 92, 93, 94, 95, 96, 97, 98, 99, 100, 101, 102, 103, 104] (by decide +kernel) (by decide +kernel)
set_option maxRecDepth 20000 in
theorem gX9_portAt_X9_layPort : GoodIn wsX9_portAt (wsV RX9 197 RX9 yX9_layPort wsX9_layPort) := goodIn_app (goodIn_of _ (by decide +kernel)) ggX9_portAt_X9_layPort
theorem dX9_portAt_0 : decode cX9_portAt 0 = .ok (.iload_n 1, 1) := by decide +kernel
theorem dX9_portAt_1 : decode cX9_portAt 1 = .ok (.i2l, 1) := by decide +kernel
theorem dX9_portAt_2 : decode cX9_portAt 2 = .ok (.lconst 1, 1) := by decide +kernel
theorem dX9_portAt_3 : decode cX9_portAt 3 = .ok (.ldc2_w 195, 3) := by decide +kernel
theorem dX9_portAt_6 : decode cX9_portAt 6 = .ok (.invokestatic 78, 3) := by decide +kernel
theorem dX9_portAt_9 : decode cX9_portAt 9 = .ok (.ifCond .ne 6, 3) := by decide +kernel
theorem dX9_portAt_12 : decode cX9_portAt 12 = .ok (.bipush (-2), 2) := by decide +kernel
theorem dX9_portAt_14 : decode cX9_portAt 14 = .ok (.ireturn, 1) := by decide +kernel
theorem dX9_portAt_15 : decode cX9_portAt 15 = .ok (.aload_n 0, 1) := by decide +kernel
theorem dX9_portAt_16 : decode cX9_portAt 16 = .ok (.getfield 123, 3) := by decide +kernel
theorem dX9_portAt_19 : decode cX9_portAt 19 = .ok (.ifCond .eq 6, 3) := by decide +kernel
theorem dX9_portAt_22 : decode cX9_portAt 22 = .ok (.bipush (-3), 2) := by decide +kernel
theorem dX9_portAt_24 : decode cX9_portAt 24 = .ok (.ireturn, 1) := by decide +kernel
theorem dX9_portAt_25 : decode cX9_portAt 25 = .ok (.iload_n 2, 1) := by decide +kernel
theorem dX9_portAt_26 : decode cX9_portAt 26 = .ok (.i2l, 1) := by decide +kernel
theorem dX9_portAt_27 : decode cX9_portAt 27 = .ok (.lconst 0, 1) := by decide +kernel
theorem dX9_portAt_28 : decode cX9_portAt 28 = .ok (.aload_n 0, 1) := by decide +kernel
theorem dX9_portAt_29 : decode cX9_portAt 29 = .ok (.iload_n 1, 1) := by decide +kernel
theorem dX9_portAt_30 : decode cX9_portAt 30 = .ok (.invokevirtual 197, 3) := by decide +kernel
theorem dX9_portAt_33 : decode cX9_portAt 33 = .ok (.iconst 1, 1) := by decide +kernel
theorem dX9_portAt_34 : decode cX9_portAt 34 = .ok (.isub, 1) := by decide +kernel
theorem dX9_portAt_35 : decode cX9_portAt 35 = .ok (.i2l, 1) := by decide +kernel
theorem dX9_portAt_36 : decode cX9_portAt 36 = .ok (.invokestatic 78, 3) := by decide +kernel
theorem dX9_portAt_39 : decode cX9_portAt 39 = .ok (.ifCond .eq 12, 3) := by decide +kernel
theorem dX9_portAt_42 : decode cX9_portAt 42 = .ok (.aload_n 0, 1) := by decide +kernel
theorem dX9_portAt_43 : decode cX9_portAt 43 = .ok (.getfield 52, 3) := by decide +kernel
theorem dX9_portAt_46 : decode cX9_portAt 46 = .ok (.iload_n 2, 1) := by decide +kernel
theorem dX9_portAt_47 : decode cX9_portAt 47 = .ok (.iaload, 1) := by decide +kernel
theorem dX9_portAt_48 : decode cX9_portAt 48 = .ok (.goto 5, 3) := by decide +kernel
theorem dX9_portAt_51 : decode cX9_portAt 51 = .ok (.bipush (-9), 2) := by decide +kernel
theorem dX9_portAt_53 : decode cX9_portAt 53 = .ok (.ireturn, 1) := by decide +kernel
theorem dX9_part_0 : decode cX9_part 0 = .ok (.lload_n 0, 1) := by decide +kernel
theorem dX9_part_1 : decode cX9_part 1 = .ok (.lstore 5, 2) := by decide +kernel
theorem dX9_part_3 : decode cX9_part 3 = .ok (.lload_n 2, 1) := by decide +kernel
theorem dX9_part_4 : decode cX9_part 4 = .ok (.lstore 7, 2) := by decide +kernel
theorem dX9_part_6 : decode cX9_part 6 = .ok (.lload 7, 2) := by decide +kernel
theorem dX9_part_8 : decode cX9_part 8 = .ok (.lconst 0, 1) := by decide +kernel
theorem dX9_part_9 : decode cX9_part 9 = .ok (.lcmp, 1) := by decide +kernel
theorem dX9_part_10 : decode cX9_part 10 = .ok (.ifCond .eq 21, 3) := by decide +kernel
theorem dX9_part_13 : decode cX9_part 13 = .ok (.lload 5, 2) := by decide +kernel
theorem dX9_part_15 : decode cX9_part 15 = .ok (.lload 7, 2) := by decide +kernel
theorem dX9_part_17 : decode cX9_part 17 = .ok (.lrem, 1) := by decide +kernel
theorem dX9_part_18 : decode cX9_part 18 = .ok (.lstore 9, 2) := by decide +kernel
theorem dX9_part_20 : decode cX9_part 20 = .ok (.lload 7, 2) := by decide +kernel
theorem dX9_part_22 : decode cX9_part 22 = .ok (.lstore 5, 2) := by decide +kernel
theorem dX9_part_24 : decode cX9_part 24 = .ok (.lload 9, 2) := by decide +kernel
theorem dX9_part_26 : decode cX9_part 26 = .ok (.lstore 7, 2) := by decide +kernel
theorem dX9_part_28 : decode cX9_part 28 = .ok (.goto (-22), 3) := by decide +kernel
theorem dX9_part_31 : decode cX9_part 31 = .ok (.iload 4, 2) := by decide +kernel
theorem dX9_part_33 : decode cX9_part 33 = .ok (.ifCond .eq 10, 3) := by decide +kernel
theorem dX9_part_36 : decode cX9_part 36 = .ok (.lload_n 0, 1) := by decide +kernel
theorem dX9_part_37 : decode cX9_part 37 = .ok (.lload 5, 2) := by decide +kernel
theorem dX9_part_39 : decode cX9_part 39 = .ok (.ldiv, 1) := by decide +kernel
theorem dX9_part_40 : decode cX9_part 40 = .ok (.goto 7, 3) := by decide +kernel
theorem dX9_part_43 : decode cX9_part 43 = .ok (.lload_n 2, 1) := by decide +kernel
theorem dX9_part_44 : decode cX9_part 44 = .ok (.lload 5, 2) := by decide +kernel
theorem dX9_part_46 : decode cX9_part 46 = .ok (.ldiv, 1) := by decide +kernel
theorem dX9_part_47 : decode cX9_part 47 = .ok (.lreturn, 1) := by decide +kernel
set_option maxRecDepth 20000 in
theorem ggX9_storm_X9_in : GoodIn wsX9_storm wsX9_in := goodIn_r _ [10] (by decide +kernel) (by decide +kernel)
set_option maxRecDepth 20000 in
theorem gX9_storm_X9_in : GoodIn wsX9_storm (va_wsS RX9 78 yX9_in wsX9_in) := goodIn_app (goodIn_of _ (by decide +kernel)) ggX9_storm_X9_in
set_option maxRecDepth 20000 in
theorem ggX9_storm_X9_leakOf : GoodIn wsX9_storm wsX9_leakOf := goodIn_r _ [14, 5, 6, 15, 16, 17, 9, 18, 19, 20, 21, 22, 23, 27, 28, 29, 30, 31, 32, 33, 34, 35, 36, 37, 38, 39, 40, 41, 42, 43, 44, 45, 46, 47, 48, 49, 50, 51, 52, 53, 54, 55, 56, 57, 58, 59, 60, 61] (by decide +kernel) (by decide +kernel)
set_option maxRecDepth 20000 in
theorem gX9_storm_X9_leakOf : GoodIn wsX9_storm (wsV RX9 169 RX9 yX9_leakOf wsX9_leakOf) := goodIn_app (goodIn_of _ (by decide +kernel)) ggX9_storm_X9_leakOf
set_option maxRecDepth 20000 in
theorem ggX9_storm_X9_inside : GoodIn wsX9_storm wsX9_inside := goodIn_r _ [22, 5, 23, 27, 28, 29, 30, 31, 32, 33, 34, 35, 36, 37, 38, 39, 40, 41, 42, 43, 44, 45, 46, 47, 48, 49, 50, 51, 52, 53, 54, 55, 56, 57, 58, 59, 60, 61] (by decide +kernel) (by decide +kernel)
set_option maxRecDepth 20000 in
theorem gX9_storm_X9_inside : GoodIn wsX9_storm (wsV RX9 134 RX9 yX9_inside wsX9_inside) := goodIn_app (goodIn_of _ (by decide +kernel)) ggX9_storm_X9_inside
set_option maxRecDepth 20000 in
theorem ggX9_storm_X9_part : GoodIn wsX9_storm wsX9_part := goodIn_r _ [26] (by decide +kernel) (by decide +kernel)
set_option maxRecDepth 20000 in
theorem gX9_storm_X9_part : GoodIn wsX9_storm (va_wsS RX9 204 yX9_part wsX9_part) := goodIn_app (goodIn_of _ (by decide +kernel)) ggX9_storm_X9_part
theorem dX9_storm_0 : decode cX9_storm 0 = .ok (.iload_n 1, 1) := by decide +kernel
theorem dX9_storm_1 : decode cX9_storm 1 = .ok (.i2l, 1) := by decide +kernel
theorem dX9_storm_2 : decode cX9_storm 2 = .ok (.lconst 0, 1) := by decide +kernel
theorem dX9_storm_3 : decode cX9_storm 3 = .ok (.ldc2_w 200, 3) := by decide +kernel
theorem dX9_storm_6 : decode cX9_storm 6 = .ok (.invokestatic 78, 3) := by decide +kernel
theorem dX9_storm_9 : decode cX9_storm 9 = .ok (.ifCond .eq 15, 3) := by decide +kernel
theorem dX9_storm_12 : decode cX9_storm 12 = .ok (.iload_n 2, 1) := by decide +kernel
theorem dX9_storm_13 : decode cX9_storm 13 = .ok (.i2l, 1) := by decide +kernel
theorem dX9_storm_14 : decode cX9_storm 14 = .ok (.lconst 0, 1) := by decide +kernel
theorem dX9_storm_15 : decode cX9_storm 15 = .ok (.ldc2_w 195, 3) := by decide +kernel
theorem dX9_storm_18 : decode cX9_storm 18 = .ok (.invokestatic 78, 3) := by decide +kernel
theorem dX9_storm_21 : decode cX9_storm 21 = .ok (.ifCond .ne 7, 3) := by decide +kernel
theorem dX9_storm_24 : decode cX9_storm 24 = .ok (.ldc2_w 202, 3) := by decide +kernel
theorem dX9_storm_27 : decode cX9_storm 27 = .ok (.lreturn, 1) := by decide +kernel
theorem dX9_storm_28 : decode cX9_storm 28 = .ok (.iconst 0, 1) := by decide +kernel
theorem dX9_storm_29 : decode cX9_storm 29 = .ok (.istore 4, 2) := by decide +kernel
theorem dX9_storm_31 : decode cX9_storm 31 = .ok (.iload 4, 2) := by decide +kernel
theorem dX9_storm_33 : decode cX9_storm 33 = .ok (.bipush 100, 2) := by decide +kernel
theorem dX9_storm_35 : decode cX9_storm 35 = .ok (.if_icmp .ge 31, 3) := by decide +kernel
theorem dX9_storm_38 : decode cX9_storm 38 = .ok (.aload_n 0, 1) := by decide +kernel
theorem dX9_storm_39 : decode cX9_storm 39 = .ok (.getfield 55, 3) := by decide +kernel
theorem dX9_storm_42 : decode cX9_storm 42 = .ok (.iload 4, 2) := by decide +kernel
theorem dX9_storm_44 : decode cX9_storm 44 = .ok (.iload 4, 2) := by decide +kernel
theorem dX9_storm_46 : decode cX9_storm 46 = .ok (.aload_n 0, 1) := by decide +kernel
theorem dX9_storm_47 : decode cX9_storm 47 = .ok (.iconst 0, 1) := by decide +kernel
theorem dX9_storm_48 : decode cX9_storm 48 = .ok (.invokevirtual 169, 3) := by decide +kernel
theorem dX9_storm_51 : decode cX9_storm 51 = .ok (.if_icmp .ne 7, 3) := by decide +kernel
theorem dX9_storm_54 : decode cX9_storm 54 = .ok (.lconst 1, 1) := by decide +kernel
theorem dX9_storm_55 : decode cX9_storm 55 = .ok (.goto 4, 3) := by decide +kernel
theorem dX9_storm_58 : decode cX9_storm 58 = .ok (.lconst 0, 1) := by decide +kernel
theorem dX9_storm_59 : decode cX9_storm 59 = .ok (.lastore, 1) := by decide +kernel
theorem dX9_storm_60 : decode cX9_storm 60 = .ok (.iinc 4 1, 3) := by decide +kernel
theorem dX9_storm_63 : decode cX9_storm 63 = .ok (.goto (-32), 3) := by decide +kernel
theorem dX9_storm_66 : decode cX9_storm 66 = .ok (.lconst 1, 1) := by decide +kernel
theorem dX9_storm_67 : decode cX9_storm 67 = .ok (.lstore 4, 2) := by decide +kernel
theorem dX9_storm_69 : decode cX9_storm 69 = .ok (.iconst 0, 1) := by decide +kernel
theorem dX9_storm_70 : decode cX9_storm 70 = .ok (.istore 6, 2) := by decide +kernel
theorem dX9_storm_72 : decode cX9_storm 72 = .ok (.iload 6, 2) := by decide +kernel
theorem dX9_storm_74 : decode cX9_storm 74 = .ok (.aload_n 0, 1) := by decide +kernel
theorem dX9_storm_75 : decode cX9_storm 75 = .ok (.getfield 114, 3) := by decide +kernel
theorem dX9_storm_78 : decode cX9_storm 78 = .ok (.if_icmp .ge 120, 3) := by decide +kernel
theorem dX9_storm_81 : decode cX9_storm 81 = .ok (.aload_n 0, 1) := by decide +kernel
theorem dX9_storm_82 : decode cX9_storm 82 = .ok (.iconst 0, 1) := by decide +kernel
theorem dX9_storm_83 : decode cX9_storm 83 = .ok (.iload 6, 2) := by decide +kernel
theorem dX9_storm_85 : decode cX9_storm 85 = .ok (.invokevirtual 134, 3) := by decide +kernel
theorem dX9_storm_88 : decode cX9_storm 88 = .ok (.bipush (-9), 2) := by decide +kernel
theorem dX9_storm_90 : decode cX9_storm 90 = .ok (.if_icmp .eq 7, 3) := by decide +kernel
theorem dX9_storm_93 : decode cX9_storm 93 = .ok (.iconst 1, 1) := by decide +kernel
theorem dX9_storm_94 : decode cX9_storm 94 = .ok (.goto 4, 3) := by decide +kernel
theorem dX9_storm_97 : decode cX9_storm 97 = .ok (.iconst 0, 1) := by decide +kernel
theorem dX9_storm_98 : decode cX9_storm 98 = .ok (.istore 7, 2) := by decide +kernel
theorem dX9_storm_100 : decode cX9_storm 100 = .ok (.bipush 99, 2) := by decide +kernel
theorem dX9_storm_102 : decode cX9_storm 102 = .ok (.istore 8, 2) := by decide +kernel
theorem dX9_storm_104 : decode cX9_storm 104 = .ok (.iload 8, 2) := by decide +kernel
theorem dX9_storm_106 : decode cX9_storm 106 = .ok (.ifCond .lt 69, 3) := by decide +kernel
theorem dX9_storm_109 : decode cX9_storm 109 = .ok (.iload 7, 2) := by decide +kernel
theorem dX9_storm_111 : decode cX9_storm 111 = .ok (.ifCond .eq 64, 3) := by decide +kernel
theorem dX9_storm_114 : decode cX9_storm 114 = .ok (.aload_n 0, 1) := by decide +kernel
theorem dX9_storm_115 : decode cX9_storm 115 = .ok (.getfield 55, 3) := by decide +kernel
theorem dX9_storm_118 : decode cX9_storm 118 = .ok (.iload 8, 2) := by decide +kernel
theorem dX9_storm_120 : decode cX9_storm 120 = .ok (.aload_n 0, 1) := by decide +kernel
theorem dX9_storm_121 : decode cX9_storm 121 = .ok (.getfield 55, 3) := by decide +kernel
theorem dX9_storm_124 : decode cX9_storm 124 = .ok (.iload 8, 2) := by decide +kernel
theorem dX9_storm_126 : decode cX9_storm 126 = .ok (.laload, 1) := by decide +kernel
theorem dX9_storm_127 : decode cX9_storm 127 = .ok (.bipush 10, 2) := by decide +kernel
theorem dX9_storm_129 : decode cX9_storm 129 = .ok (.iload_n 1, 1) := by decide +kernel
theorem dX9_storm_130 : decode cX9_storm 130 = .ok (.isub, 1) := by decide +kernel
theorem dX9_storm_131 : decode cX9_storm 131 = .ok (.i2l, 1) := by decide +kernel
theorem dX9_storm_132 : decode cX9_storm 132 = .ok (.lmul, 1) := by decide +kernel
theorem dX9_storm_133 : decode cX9_storm 133 = .ok (.iload 8, 2) := by decide +kernel
theorem dX9_storm_135 : decode cX9_storm 135 = .ok (.aload_n 0, 1) := by decide +kernel
theorem dX9_storm_136 : decode cX9_storm 136 = .ok (.getfield 28, 3) := by decide +kernel
theorem dX9_storm_139 : decode cX9_storm 139 = .ok (.iload 6, 2) := by decide +kernel
theorem dX9_storm_141 : decode cX9_storm 141 = .ok (.iaload, 1) := by decide +kernel
theorem dX9_storm_142 : decode cX9_storm 142 = .ok (.if_icmp .lt 24, 3) := by decide +kernel
theorem dX9_storm_145 : decode cX9_storm 145 = .ok (.aload_n 0, 1) := by decide +kernel
theorem dX9_storm_146 : decode cX9_storm 146 = .ok (.getfield 55, 3) := by decide +kernel
theorem dX9_storm_149 : decode cX9_storm 149 = .ok (.iload 8, 2) := by decide +kernel
theorem dX9_storm_151 : decode cX9_storm 151 = .ok (.aload_n 0, 1) := by decide +kernel
theorem dX9_storm_152 : decode cX9_storm 152 = .ok (.getfield 28, 3) := by decide +kernel
theorem dX9_storm_155 : decode cX9_storm 155 = .ok (.iload 6, 2) := by decide +kernel
theorem dX9_storm_157 : decode cX9_storm 157 = .ok (.iaload, 1) := by decide +kernel
theorem dX9_storm_158 : decode cX9_storm 158 = .ok (.isub, 1) := by decide +kernel
theorem dX9_storm_159 : decode cX9_storm 159 = .ok (.laload, 1) := by decide +kernel
theorem dX9_storm_160 : decode cX9_storm 160 = .ok (.iload_n 1, 1) := by decide +kernel
theorem dX9_storm_161 : decode cX9_storm 161 = .ok (.i2l, 1) := by decide +kernel
theorem dX9_storm_162 : decode cX9_storm 162 = .ok (.lmul, 1) := by decide +kernel
theorem dX9_storm_163 : decode cX9_storm 163 = .ok (.goto 4, 3) := by decide +kernel
theorem dX9_storm_166 : decode cX9_storm 166 = .ok (.lconst 0, 1) := by decide +kernel
theorem dX9_storm_167 : decode cX9_storm 167 = .ok (.ladd, 1) := by decide +kernel
theorem dX9_storm_168 : decode cX9_storm 168 = .ok (.lastore, 1) := by decide +kernel
theorem dX9_storm_169 : decode cX9_storm 169 = .ok (.iinc 8 (-1), 3) := by decide +kernel
theorem dX9_storm_172 : decode cX9_storm 172 = .ok (.goto (-68), 3) := by decide +kernel
theorem dX9_storm_175 : decode cX9_storm 175 = .ok (.lload 4, 2) := by decide +kernel
theorem dX9_storm_177 : decode cX9_storm 177 = .ok (.iload 7, 2) := by decide +kernel
theorem dX9_storm_179 : decode cX9_storm 179 = .ok (.ifCond .eq 9, 3) := by decide +kernel
theorem dX9_storm_182 : decode cX9_storm 182 = .ok (.ldc2_w 200, 3) := by decide +kernel
theorem dX9_storm_185 : decode cX9_storm 185 = .ok (.goto 4, 3) := by decide +kernel
theorem dX9_storm_188 : decode cX9_storm 188 = .ok (.lconst 1, 1) := by decide +kernel
theorem dX9_storm_189 : decode cX9_storm 189 = .ok (.lmul, 1) := by decide +kernel
theorem dX9_storm_190 : decode cX9_storm 190 = .ok (.lstore 4, 2) := by decide +kernel
theorem dX9_storm_192 : decode cX9_storm 192 = .ok (.iinc 6 1, 3) := by decide +kernel
theorem dX9_storm_195 : decode cX9_storm 195 = .ok (.goto (-123), 3) := by decide +kernel
theorem dX9_storm_198 : decode cX9_storm 198 = .ok (.lconst 0, 1) := by decide +kernel
theorem dX9_storm_199 : decode cX9_storm 199 = .ok (.lstore 6, 2) := by decide +kernel
theorem dX9_storm_201 : decode cX9_storm 201 = .ok (.iconst 0, 1) := by decide +kernel
theorem dX9_storm_202 : decode cX9_storm 202 = .ok (.istore 8, 2) := by decide +kernel
theorem dX9_storm_204 : decode cX9_storm 204 = .ok (.iload 8, 2) := by decide +kernel
theorem dX9_storm_206 : decode cX9_storm 206 = .ok (.iload_n 2, 1) := by decide +kernel
theorem dX9_storm_207 : decode cX9_storm 207 = .ok (.if_icmp .gt 21, 3) := by decide +kernel
theorem dX9_storm_210 : decode cX9_storm 210 = .ok (.lload 6, 2) := by decide +kernel
theorem dX9_storm_212 : decode cX9_storm 212 = .ok (.aload_n 0, 1) := by decide +kernel
theorem dX9_storm_213 : decode cX9_storm 213 = .ok (.getfield 55, 3) := by decide +kernel
theorem dX9_storm_216 : decode cX9_storm 216 = .ok (.iload 8, 2) := by decide +kernel
theorem dX9_storm_218 : decode cX9_storm 218 = .ok (.laload, 1) := by decide +kernel
theorem dX9_storm_219 : decode cX9_storm 219 = .ok (.ladd, 1) := by decide +kernel
theorem dX9_storm_220 : decode cX9_storm 220 = .ok (.lstore 6, 2) := by decide +kernel
theorem dX9_storm_222 : decode cX9_storm 222 = .ok (.iinc 8 1, 3) := by decide +kernel
theorem dX9_storm_225 : decode cX9_storm 225 = .ok (.goto (-21), 3) := by decide +kernel
theorem dX9_storm_228 : decode cX9_storm 228 = .ok (.lload 6, 2) := by decide +kernel
theorem dX9_storm_230 : decode cX9_storm 230 = .ok (.lload 4, 2) := by decide +kernel
theorem dX9_storm_232 : decode cX9_storm 232 = .ok (.iload_n 3, 1) := by decide +kernel
theorem dX9_storm_233 : decode cX9_storm 233 = .ok (.invokestatic 204, 3) := by decide +kernel
theorem dX9_storm_236 : decode cX9_storm 236 = .ok (.lreturn, 1) := by decide +kernel
set_option maxRecDepth 20000 in
theorem ggX9_share_X9_in : GoodIn wsX9_share wsX9_in := goodIn_r _ [9] (by decide +kernel) (by decide +kernel)
set_option maxRecDepth 20000 in
theorem gX9_share_X9_in : GoodIn wsX9_share (va_wsS RX9 78 yX9_in wsX9_in) := goodIn_app (goodIn_of _ (by decide +kernel)) ggX9_share_X9_in
set_option maxRecDepth 20000 in
theorem ggX9_share_X9_part : GoodIn wsX9_share wsX9_part := goodIn_r _ [12] (by decide +kernel) (by decide +kernel)
set_option maxRecDepth 20000 in
theorem gX9_share_X9_part : GoodIn wsX9_share (va_wsS RX9 204 yX9_part wsX9_part) := goodIn_app (goodIn_of _ (by decide +kernel)) ggX9_share_X9_part
theorem dX9_share_0 : decode cX9_share 0 = .ok (.iload_n 1, 1) := by decide +kernel
theorem dX9_share_1 : decode cX9_share 1 = .ok (.i2l, 1) := by decide +kernel
theorem dX9_share_2 : decode cX9_share 2 = .ok (.lconst 0, 1) := by decide +kernel
theorem dX9_share_3 : decode cX9_share 3 = .ok (.ldc2_w 187, 3) := by decide +kernel
theorem dX9_share_6 : decode cX9_share 6 = .ok (.invokestatic 78, 3) := by decide +kernel
theorem dX9_share_9 : decode cX9_share 9 = .ok (.ifCond .ne 5, 3) := by decide +kernel
