theorem dX1_init_0 : decode cX1_init 0 = .ok (.aload_n 0, 1) := by decide +kernel
theorem dX1_init_1 : decode cX1_init 1 = .ok (.invokespecial 3, 3) := by decide +kernel
theorem dX1_init_4 : decode cX1_init 4 = .ok (.aload_n 0, 1) := by decide +kernel
theorem dX1_init_5 : decode cX1_init 5 = .ok (.bipush 91, 2) := by decide +kernel
theorem dX1_init_7 : decode cX1_init 7 = .ok (.newarray .long, 2) := by decide +kernel
theorem dX1_init_9 : decode cX1_init 9 = .ok (.putfield 9, 3) := by decide +kernel
theorem dX1_init_12 : decode cX1_init 12 = .ok (.aload_n 0, 1) := by decide +kernel
theorem dX1_init_13 : decode cX1_init 13 = .ok (.lconst 1, 1) := by decide +kernel
theorem dX1_init_14 : decode cX1_init 14 = .ok (.putfield 15, 3) := by decide +kernel
theorem dX1_init_17 : decode cX1_init 17 = .ok (.return_, 1) := by decide +kernel
theorem dX1_begin_0 : decode cX1_begin 0 = .ok (.iconst 0, 1) := by decide +kernel
theorem dX1_begin_1 : decode cX1_begin 1 = .ok (.istore_n 2, 1) := by decide +kernel
theorem dX1_begin_2 : decode cX1_begin 2 = .ok (.iload_n 2, 1) := by decide +kernel
theorem dX1_begin_3 : decode cX1_begin 3 = .ok (.aload_n 0, 1) := by decide +kernel
theorem dX1_begin_4 : decode cX1_begin 4 = .ok (.getfield 9, 3) := by decide +kernel
theorem dX1_begin_7 : decode cX1_begin 7 = .ok (.arraylength, 1) := by decide +kernel
theorem dX1_begin_8 : decode cX1_begin 8 = .ok (.if_icmp .ge 25, 3) := by decide +kernel
theorem dX1_begin_11 : decode cX1_begin 11 = .ok (.aload_n 0, 1) := by decide +kernel
theorem dX1_begin_12 : decode cX1_begin 12 = .ok (.getfield 9, 3) := by decide +kernel
theorem dX1_begin_15 : decode cX1_begin 15 = .ok (.iload_n 2, 1) := by decide +kernel
theorem dX1_begin_16 : decode cX1_begin 16 = .ok (.iload_n 2, 1) := by decide +kernel
theorem dX1_begin_17 : decode cX1_begin 17 = .ok (.iload_n 1, 1) := by decide +kernel
theorem dX1_begin_18 : decode cX1_begin 18 = .ok (.if_icmp .ne 7, 3) := by decide +kernel
theorem dX1_begin_21 : decode cX1_begin 21 = .ok (.lconst 1, 1) := by decide +kernel
theorem dX1_begin_22 : decode cX1_begin 22 = .ok (.goto 4, 3) := by decide +kernel
theorem dX1_begin_25 : decode cX1_begin 25 = .ok (.lconst 0, 1) := by decide +kernel
theorem dX1_begin_26 : decode cX1_begin 26 = .ok (.lastore, 1) := by decide +kernel
theorem dX1_begin_27 : decode cX1_begin 27 = .ok (.iinc 2 1, 3) := by decide +kernel
theorem dX1_begin_30 : decode cX1_begin 30 = .ok (.goto (-28), 3) := by decide +kernel
theorem dX1_begin_33 : decode cX1_begin 33 = .ok (.aload_n 0, 1) := by decide +kernel
theorem dX1_begin_34 : decode cX1_begin 34 = .ok (.lconst 1, 1) := by decide +kernel
theorem dX1_begin_35 : decode cX1_begin 35 = .ok (.putfield 15, 3) := by decide +kernel
theorem dX1_begin_38 : decode cX1_begin 38 = .ok (.return_, 1) := by decide +kernel
theorem dX1_tearOut_0 : decode cX1_tearOut 0 = .ok (.aload_n 0, 1) := by decide +kernel
theorem dX1_tearOut_1 : decode cX1_tearOut 1 = .ok (.getfield 9, 3) := by decide +kernel
theorem dX1_tearOut_4 : decode cX1_tearOut 4 = .ok (.arraylength, 1) := by decide +kernel
theorem dX1_tearOut_5 : decode cX1_tearOut 5 = .ok (.iconst 1, 1) := by decide +kernel
theorem dX1_tearOut_6 : decode cX1_tearOut 6 = .ok (.isub, 1) := by decide +kernel
theorem dX1_tearOut_7 : decode cX1_tearOut 7 = .ok (.istore_n 3, 1) := by decide +kernel
theorem dX1_tearOut_8 : decode cX1_tearOut 8 = .ok (.iload_n 3, 1) := by decide +kernel
theorem dX1_tearOut_9 : decode cX1_tearOut 9 = .ok (.ifCond .lt 66, 3) := by decide +kernel
theorem dX1_tearOut_12 : decode cX1_tearOut 12 = .ok (.iload_n 3, 1) := by decide +kernel
theorem dX1_tearOut_13 : decode cX1_tearOut 13 = .ok (.iload_n 1, 1) := by decide +kernel
theorem dX1_tearOut_14 : decode cX1_tearOut 14 = .ok (.isub, 1) := by decide +kernel
theorem dX1_tearOut_15 : decode cX1_tearOut 15 = .ok (.istore 4, 2) := by decide +kernel
theorem dX1_tearOut_17 : decode cX1_tearOut 17 = .ok (.iload 4, 2) := by decide +kernel
theorem dX1_tearOut_19 : decode cX1_tearOut 19 = .ok (.ifCond .lt 26, 3) := by decide +kernel
theorem dX1_tearOut_22 : decode cX1_tearOut 22 = .ok (.iload 4, 2) := by decide +kernel
theorem dX1_tearOut_24 : decode cX1_tearOut 24 = .ok (.aload_n 0, 1) := by decide +kernel
theorem dX1_tearOut_25 : decode cX1_tearOut 25 = .ok (.getfield 9, 3) := by decide +kernel
theorem dX1_tearOut_28 : decode cX1_tearOut 28 = .ok (.arraylength, 1) := by decide +kernel
theorem dX1_tearOut_29 : decode cX1_tearOut 29 = .ok (.if_icmp .ge 16, 3) := by decide +kernel
theorem dX1_tearOut_32 : decode cX1_tearOut 32 = .ok (.aload_n 0, 1) := by decide +kernel
theorem dX1_tearOut_33 : decode cX1_tearOut 33 = .ok (.getfield 9, 3) := by decide +kernel
theorem dX1_tearOut_36 : decode cX1_tearOut 36 = .ok (.iload 4, 2) := by decide +kernel
theorem dX1_tearOut_38 : decode cX1_tearOut 38 = .ok (.laload, 1) := by decide +kernel
theorem dX1_tearOut_39 : decode cX1_tearOut 39 = .ok (.iload_n 2, 1) := by decide +kernel
theorem dX1_tearOut_40 : decode cX1_tearOut 40 = .ok (.i2l, 1) := by decide +kernel
theorem dX1_tearOut_41 : decode cX1_tearOut 41 = .ok (.lmul, 1) := by decide +kernel
theorem dX1_tearOut_42 : decode cX1_tearOut 42 = .ok (.goto 4, 3) := by decide +kernel
theorem dX1_tearOut_45 : decode cX1_tearOut 45 = .ok (.lconst 0, 1) := by decide +kernel
theorem dX1_tearOut_46 : decode cX1_tearOut 46 = .ok (.lstore 5, 2) := by decide +kernel
theorem dX1_tearOut_48 : decode cX1_tearOut 48 = .ok (.aload_n 0, 1) := by decide +kernel
theorem dX1_tearOut_49 : decode cX1_tearOut 49 = .ok (.getfield 9, 3) := by decide +kernel
theorem dX1_tearOut_52 : decode cX1_tearOut 52 = .ok (.iload_n 3, 1) := by decide +kernel
theorem dX1_tearOut_53 : decode cX1_tearOut 53 = .ok (.aload_n 0, 1) := by decide +kernel
theorem dX1_tearOut_54 : decode cX1_tearOut 54 = .ok (.getfield 9, 3) := by decide +kernel
theorem dX1_tearOut_57 : decode cX1_tearOut 57 = .ok (.iload_n 3, 1) := by decide +kernel
theorem dX1_tearOut_58 : decode cX1_tearOut 58 = .ok (.laload, 1) := by decide +kernel
theorem dX1_tearOut_59 : decode cX1_tearOut 59 = .ok (.bipush 10, 2) := by decide +kernel
theorem dX1_tearOut_61 : decode cX1_tearOut 61 = .ok (.iload_n 2, 1) := by decide +kernel
theorem dX1_tearOut_62 : decode cX1_tearOut 62 = .ok (.isub, 1) := by decide +kernel
theorem dX1_tearOut_63 : decode cX1_tearOut 63 = .ok (.i2l, 1) := by decide +kernel
theorem dX1_tearOut_64 : decode cX1_tearOut 64 = .ok (.lmul, 1) := by decide +kernel
theorem dX1_tearOut_65 : decode cX1_tearOut 65 = .ok (.lload 5, 2) := by decide +kernel
theorem dX1_tearOut_67 : decode cX1_tearOut 67 = .ok (.ladd, 1) := by decide +kernel
theorem dX1_tearOut_68 : decode cX1_tearOut 68 = .ok (.lastore, 1) := by decide +kernel
theorem dX1_tearOut_69 : decode cX1_tearOut 69 = .ok (.iinc 3 (-1), 3) := by decide +kernel
theorem dX1_tearOut_72 : decode cX1_tearOut 72 = .ok (.goto (-64), 3) := by decide +kernel
theorem dX1_tearOut_75 : decode cX1_tearOut 75 = .ok (.aload_n 0, 1) := by decide +kernel
theorem dX1_tearOut_76 : decode cX1_tearOut 76 = .ok (.dup, 1) := by decide +kernel
theorem dX1_tearOut_77 : decode cX1_tearOut 77 = .ok (.getfield 15, 3) := by decide +kernel
theorem dX1_tearOut_80 : decode cX1_tearOut 80 = .ok (.ldc2_w 19, 3) := by decide +kernel
theorem dX1_tearOut_83 : decode cX1_tearOut 83 = .ok (.lmul, 1) := by decide +kernel
theorem dX1_tearOut_84 : decode cX1_tearOut 84 = .ok (.putfield 15, 3) := by decide +kernel
theorem dX1_tearOut_87 : decode cX1_tearOut 87 = .ok (.return_, 1) := by decide +kernel
theorem dX1_upTo_0 : decode cX1_upTo 0 = .ok (.lconst 0, 1) := by decide +kernel
theorem dX1_upTo_1 : decode cX1_upTo 1 = .ok (.lstore_n 2, 1) := by decide +kernel
theorem dX1_upTo_2 : decode cX1_upTo 2 = .ok (.iconst 0, 1) := by decide +kernel
theorem dX1_upTo_3 : decode cX1_upTo 3 = .ok (.istore 4, 2) := by decide +kernel
theorem dX1_upTo_5 : decode cX1_upTo 5 = .ok (.iload 4, 2) := by decide +kernel
theorem dX1_upTo_7 : decode cX1_upTo 7 = .ok (.iload_n 1, 1) := by decide +kernel
theorem dX1_upTo_8 : decode cX1_upTo 8 = .ok (.if_icmp .gt 29, 3) := by decide +kernel
theorem dX1_upTo_11 : decode cX1_upTo 11 = .ok (.iload 4, 2) := by decide +kernel
theorem dX1_upTo_13 : decode cX1_upTo 13 = .ok (.aload_n 0, 1) := by decide +kernel
theorem dX1_upTo_14 : decode cX1_upTo 14 = .ok (.getfield 9, 3) := by decide +kernel
theorem dX1_upTo_17 : decode cX1_upTo 17 = .ok (.arraylength, 1) := by decide +kernel
theorem dX1_upTo_18 : decode cX1_upTo 18 = .ok (.if_icmp .ge 19, 3) := by decide +kernel
theorem dX1_upTo_21 : decode cX1_upTo 21 = .ok (.lload_n 2, 1) := by decide +kernel
theorem dX1_upTo_22 : decode cX1_upTo 22 = .ok (.aload_n 0, 1) := by decide +kernel
theorem dX1_upTo_23 : decode cX1_upTo 23 = .ok (.getfield 9, 3) := by decide +kernel
theorem dX1_upTo_26 : decode cX1_upTo 26 = .ok (.iload 4, 2) := by decide +kernel
theorem dX1_upTo_28 : decode cX1_upTo 28 = .ok (.laload, 1) := by decide +kernel
theorem dX1_upTo_29 : decode cX1_upTo 29 = .ok (.ladd, 1) := by decide +kernel
theorem dX1_upTo_30 : decode cX1_upTo 30 = .ok (.lstore_n 2, 1) := by decide +kernel
theorem dX1_upTo_31 : decode cX1_upTo 31 = .ok (.iinc 4 1, 3) := by decide +kernel
theorem dX1_upTo_34 : decode cX1_upTo 34 = .ok (.goto (-29), 3) := by decide +kernel
theorem dX1_upTo_37 : decode cX1_upTo 37 = .ok (.lload_n 2, 1) := by decide +kernel
theorem dX1_upTo_38 : decode cX1_upTo 38 = .ok (.lreturn, 1) := by decide +kernel
theorem dX1_all_0 : decode cX1_all 0 = .ok (.aload_n 0, 1) := by decide +kernel
theorem dX1_all_1 : decode cX1_all 1 = .ok (.getfield 15, 3) := by decide +kernel
theorem dX1_all_4 : decode cX1_all 4 = .ok (.lreturn, 1) := by decide +kernel
