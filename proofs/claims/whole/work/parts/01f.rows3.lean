set_option maxRecDepth 20000 in
theorem gX8_has_X8_fails : GoodIn wsX8_has (wsV RX8 111 RX8 yX8_fails wsX8_fails) := goodIn_app (goodIn_of _ (by decide +kernel)) ggX8_has_X8_fails
set_option maxRecDepth 20000 in
theorem ggX8_has_X8_is : GoodIn wsX8_has wsX8_is := goodIn_r _ [14, 15, 16, 17, 18, 19, 5, 20, 21, 22, 23, 24, 25, 26, 27, 28, 29, 30, 31, 32, 33, 34, 35, 36, 37, 38, 39, 40] (by decide +kernel) (by decide +kernel)
set_option maxRecDepth 20000 in
theorem gX8_has_X8_is : GoodIn wsX8_has (wsV RX8 118 RX8 yX8_is wsX8_is) := goodIn_app (goodIn_of _ (by decide +kernel)) ggX8_has_X8_is
theorem dX8_has_0 : decode cX8_has 0 = .ok (.aload_n 0, 1) := by decide +kernel
theorem dX8_has_1 : decode cX8_has 1 = .ok (.iconst 0, 1) := by decide +kernel
theorem dX8_has_2 : decode cX8_has 2 = .ok (.putfield 47, 3) := by decide +kernel
theorem dX8_has_5 : decode cX8_has 5 = .ok (.iload_n 1, 1) := by decide +kernel
theorem dX8_has_6 : decode cX8_has 6 = .ok (.iconst 0, 1) := by decide +kernel
theorem dX8_has_7 : decode cX8_has 7 = .ok (.ldc 106, 2) := by decide +kernel
theorem dX8_has_9 : decode cX8_has 9 = .ok (.invokestatic 107, 3) := by decide +kernel
theorem dX8_has_12 : decode cX8_has 12 = .ok (.ifCond .ne 11, 3) := by decide +kernel
theorem dX8_has_15 : decode cX8_has 15 = .ok (.aload_n 0, 1) := by decide +kernel
theorem dX8_has_16 : decode cX8_has 16 = .ok (.iconst 1, 1) := by decide +kernel
theorem dX8_has_17 : decode cX8_has 17 = .ok (.invokevirtual 111, 3) := by decide +kernel
theorem dX8_has_20 : decode cX8_has 20 = .ok (.pop, 1) := by decide +kernel
theorem dX8_has_21 : decode cX8_has 21 = .ok (.iconst 0, 1) := by decide +kernel
theorem dX8_has_22 : decode cX8_has 22 = .ok (.ireturn, 1) := by decide +kernel
theorem dX8_has_23 : decode cX8_has 23 = .ok (.aload_n 0, 1) := by decide +kernel
theorem dX8_has_24 : decode cX8_has 24 = .ok (.iload_n 1, 1) := by decide +kernel
theorem dX8_has_25 : decode cX8_has 25 = .ok (.invokevirtual 118, 3) := by decide +kernel
theorem dX8_has_28 : decode cX8_has 28 = .ok (.ireturn, 1) := by decide +kernel
set_option maxRecDepth 20000 in
theorem ggX8_keyAt_X8_in : GoodIn wsX8_keyAt wsX8_in := goodIn_r _ [7] (by decide +kernel) (by decide +kernel)
set_option maxRecDepth 20000 in
theorem gX8_keyAt_X8_in : GoodIn wsX8_keyAt (va_wsS RX8 107 yX8_in wsX8_in) := goodIn_app (goodIn_of _ (by decide +kernel)) ggX8_keyAt_X8_in
set_option maxRecDepth 20000 in
theorem ggX8_keyAt_X8_fails : GoodIn wsX8_keyAt wsX8_fails := goodIn_r _ [11, 1, 12, 13, 14, 15, 16, 17, 18, 19, 20, 21, 22, 23, 24, 25, 26, 27, 28, 29, 30, 31] (by decide +kernel) (by decide +kernel)
set_option maxRecDepth 20000 in
theorem gX8_keyAt_X8_fails : GoodIn wsX8_keyAt (wsV RX8 111 RX8 yX8_fails wsX8_fails) := goodIn_app (goodIn_of _ (by decide +kernel)) ggX8_keyAt_X8_fails
theorem dX8_keyAt_0 : decode cX8_keyAt 0 = .ok (.aload_n 0, 1) := by decide +kernel
theorem dX8_keyAt_1 : decode cX8_keyAt 1 = .ok (.iconst 0, 1) := by decide +kernel
theorem dX8_keyAt_2 : decode cX8_keyAt 2 = .ok (.putfield 47, 3) := by decide +kernel
theorem dX8_keyAt_5 : decode cX8_keyAt 5 = .ok (.iload_n 1, 1) := by decide +kernel
theorem dX8_keyAt_6 : decode cX8_keyAt 6 = .ok (.iconst 0, 1) := by decide +kernel
theorem dX8_keyAt_7 : decode cX8_keyAt 7 = .ok (.aload_n 0, 1) := by decide +kernel
theorem dX8_keyAt_8 : decode cX8_keyAt 8 = .ok (.getfield 99, 3) := by decide +kernel
theorem dX8_keyAt_11 : decode cX8_keyAt 11 = .ok (.iconst 1, 1) := by decide +kernel
theorem dX8_keyAt_12 : decode cX8_keyAt 12 = .ok (.isub, 1) := by decide +kernel
theorem dX8_keyAt_13 : decode cX8_keyAt 13 = .ok (.invokestatic 107, 3) := by decide +kernel
theorem dX8_keyAt_16 : decode cX8_keyAt 16 = .ok (.ifCond .eq 12, 3) := by decide +kernel
theorem dX8_keyAt_19 : decode cX8_keyAt 19 = .ok (.aload_n 0, 1) := by decide +kernel
theorem dX8_keyAt_20 : decode cX8_keyAt 20 = .ok (.getfield 7, 3) := by decide +kernel
theorem dX8_keyAt_23 : decode cX8_keyAt 23 = .ok (.iload_n 1, 1) := by decide +kernel
theorem dX8_keyAt_24 : decode cX8_keyAt 24 = .ok (.iaload, 1) := by decide +kernel
theorem dX8_keyAt_25 : decode cX8_keyAt 25 = .ok (.goto 8, 3) := by decide +kernel
theorem dX8_keyAt_28 : decode cX8_keyAt 28 = .ok (.aload_n 0, 1) := by decide +kernel
theorem dX8_keyAt_29 : decode cX8_keyAt 29 = .ok (.iconst 1, 1) := by decide +kernel
theorem dX8_keyAt_30 : decode cX8_keyAt 30 = .ok (.invokevirtual 111, 3) := by decide +kernel
theorem dX8_keyAt_33 : decode cX8_keyAt 33 = .ok (.ireturn, 1) := by decide +kernel
set_option maxRecDepth 20000 in
theorem ggX8_stepOf_X8_hash : GoodIn wsX8_stepOf wsX8_hash := goodIn_r _ [4, 5, 6, 7, 3, 8, 9, 10, 11, 12, 13, 14, 15, 16, 17, 18, 19, 20, 21, 22, 23, 24, 25, 26, 27, 28, 29, 30, 31, 32] (by decide +kernel) (by decide +kernel)
set_option maxRecDepth 20000 in
theorem gX8_stepOf_X8_hash : GoodIn wsX8_stepOf (va_wsS RX8 126 yX8_hash wsX8_hash) := goodIn_app (goodIn_of _ (by decide +kernel)) ggX8_stepOf_X8_hash
theorem dX8_stepOf_0 : decode cX8_stepOf 0 = .ok (.iload_n 2, 1) := by decide +kernel
theorem dX8_stepOf_1 : decode cX8_stepOf 1 = .ok (.iconst 1, 1) := by decide +kernel
theorem dX8_stepOf_2 : decode cX8_stepOf 2 = .ok (.if_icmp .ne 7, 3) := by decide +kernel
theorem dX8_stepOf_5 : decode cX8_stepOf 5 = .ok (.iconst 1, 1) := by decide +kernel
theorem dX8_stepOf_6 : decode cX8_stepOf 6 = .ok (.goto 15, 3) := by decide +kernel
theorem dX8_stepOf_9 : decode cX8_stepOf 9 = .ok (.iconst 1, 1) := by decide +kernel
theorem dX8_stepOf_10 : decode cX8_stepOf 10 = .ok (.iconst 2, 1) := by decide +kernel
theorem dX8_stepOf_11 : decode cX8_stepOf 11 = .ok (.iload_n 0, 1) := by decide +kernel
theorem dX8_stepOf_12 : decode cX8_stepOf 12 = .ok (.iload_n 1, 1) := by decide +kernel
theorem dX8_stepOf_13 : decode cX8_stepOf 13 = .ok (.invokestatic 126, 3) := by decide +kernel
theorem dX8_stepOf_16 : decode cX8_stepOf 16 = .ok (.iload_n 2, 1) := by decide +kernel
theorem dX8_stepOf_17 : decode cX8_stepOf 17 = .ok (.iconst 1, 1) := by decide +kernel
theorem dX8_stepOf_18 : decode cX8_stepOf 18 = .ok (.isub, 1) := by decide +kernel
theorem dX8_stepOf_19 : decode cX8_stepOf 19 = .ok (.irem, 1) := by decide +kernel
theorem dX8_stepOf_20 : decode cX8_stepOf 20 = .ok (.iadd, 1) := by decide +kernel
theorem dX8_stepOf_21 : decode cX8_stepOf 21 = .ok (.ireturn, 1) := by decide +kernel
set_option maxRecDepth 20000 in
theorem ggX8_place_X8_hash : GoodIn wsX8_place wsX8_hash := goodIn_r _ [4, 5, 6, 7, 3, 8, 9, 10, 11, 12, 13, 14, 15, 16, 17, 18, 19, 20, 21, 22, 23, 24, 25, 26, 27, 28, 29, 30, 31, 32] (by decide +kernel) (by decide +kernel)
set_option maxRecDepth 20000 in
theorem gX8_place_X8_hash : GoodIn wsX8_place (va_wsS RX8 126 yX8_hash wsX8_hash) := goodIn_app (goodIn_of _ (by decide +kernel)) ggX8_place_X8_hash
set_option maxRecDepth 20000 in
theorem ggX8_place_X8_stepOf : GoodIn wsX8_place wsX8_stepOf := goodIn_r _ [35, 1, 2, 3, 4, 5, 6, 7, 8, 9, 10, 11, 12, 13, 14, 15, 16, 17, 18, 19, 20, 21, 22, 23, 24, 25, 26, 27, 28, 29, 30, 31, 32] (by decide +kernel) (by decide +kernel)
set_option maxRecDepth 20000 in
theorem gX8_place_X8_stepOf : GoodIn wsX8_place (va_wsS RX8 130 yX8_stepOf wsX8_stepOf) := goodIn_app (goodIn_of _ (by decide +kernel)) ggX8_place_X8_stepOf
theorem dX8_place_0 : decode cX8_place 0 = .ok (.iconst 1, 1) := by decide +kernel
theorem dX8_place_1 : decode cX8_place 1 = .ok (.iload_n 0, 1) := by decide +kernel
theorem dX8_place_2 : decode cX8_place 2 = .ok (.iload_n 1, 1) := by decide +kernel
theorem dX8_place_3 : decode cX8_place 3 = .ok (.invokestatic 126, 3) := by decide +kernel
theorem dX8_place_6 : decode cX8_place 6 = .ok (.i2l, 1) := by decide +kernel
theorem dX8_place_7 : decode cX8_place 7 = .ok (.iload_n 2, 1) := by decide +kernel
theorem dX8_place_8 : decode cX8_place 8 = .ok (.i2l, 1) := by decide +kernel
theorem dX8_place_9 : decode cX8_place 9 = .ok (.iload_n 0, 1) := by decide +kernel
theorem dX8_place_10 : decode cX8_place 10 = .ok (.iload_n 1, 1) := by decide +kernel
theorem dX8_place_11 : decode cX8_place 11 = .ok (.iload_n 3, 1) := by decide +kernel
theorem dX8_place_12 : decode cX8_place 12 = .ok (.invokestatic 130, 3) := by decide +kernel
theorem dX8_place_15 : decode cX8_place 15 = .ok (.i2l, 1) := by decide +kernel
theorem dX8_place_16 : decode cX8_place 16 = .ok (.lmul, 1) := by decide +kernel
theorem dX8_place_17 : decode cX8_place 17 = .ok (.ladd, 1) := by decide +kernel
theorem dX8_place_18 : decode cX8_place 18 = .ok (.iload_n 3, 1) := by decide +kernel
theorem dX8_place_19 : decode cX8_place 19 = .ok (.i2l, 1) := by decide +kernel
theorem dX8_place_20 : decode cX8_place 20 = .ok (.lrem, 1) := by decide +kernel
theorem dX8_place_21 : decode cX8_place 21 = .ok (.l2i, 1) := by decide +kernel
theorem dX8_place_22 : decode cX8_place 22 = .ok (.ireturn, 1) := by decide +kernel
set_option maxRecDepth 20000 in
theorem ggX8_gather_X8_hash : GoodIn wsX8_gather wsX8_hash := goodIn_r _ [7, 8, 9, 10, 6, 11, 12, 13, 14, 15, 16, 17, 18, 19, 20, 21, 22, 23, 24, 25, 26, 27, 28, 29, 30, 31, 32, 33, 34, 35] (by decide +kernel) (by decide +kernel)
set_option maxRecDepth 20000 in
theorem gX8_gather_X8_hash : GoodIn wsX8_gather (va_wsS RX8 126 yX8_hash wsX8_hash) := goodIn_app (goodIn_of _ (by decide +kernel)) ggX8_gather_X8_hash
theorem dX8_gather_0 : decode cX8_gather 0 = .ok (.iconst 0, 1) := by decide +kernel
theorem dX8_gather_1 : decode cX8_gather 1 = .ok (.istore 4, 2) := by decide +kernel
theorem dX8_gather_3 : decode cX8_gather 3 = .ok (.iconst 0, 1) := by decide +kernel
theorem dX8_gather_4 : decode cX8_gather 4 = .ok (.istore 5, 2) := by decide +kernel
theorem dX8_gather_6 : decode cX8_gather 6 = .ok (.iload 5, 2) := by decide +kernel
theorem dX8_gather_8 : decode cX8_gather 8 = .ok (.aload_n 0, 1) := by decide +kernel
theorem dX8_gather_9 : decode cX8_gather 9 = .ok (.getfield 99, 3) := by decide +kernel
theorem dX8_gather_12 : decode cX8_gather 12 = .ok (.if_icmp .ge 44, 3) := by decide +kernel
theorem dX8_gather_15 : decode cX8_gather 15 = .ok (.iconst 0, 1) := by decide +kernel
theorem dX8_gather_16 : decode cX8_gather 16 = .ok (.aload_n 0, 1) := by decide +kernel
theorem dX8_gather_17 : decode cX8_gather 17 = .ok (.getfield 7, 3) := by decide +kernel
theorem dX8_gather_20 : decode cX8_gather 20 = .ok (.iload 5, 2) := by decide +kernel
theorem dX8_gather_22 : decode cX8_gather 22 = .ok (.iaload, 1) := by decide +kernel
theorem dX8_gather_23 : decode cX8_gather 23 = .ok (.iload_n 2, 1) := by decide +kernel
theorem dX8_gather_24 : decode cX8_gather 24 = .ok (.invokestatic 126, 3) := by decide +kernel
theorem dX8_gather_27 : decode cX8_gather 27 = .ok (.iload_n 3, 1) := by decide +kernel
theorem dX8_gather_28 : decode cX8_gather 28 = .ok (.irem, 1) := by decide +kernel
theorem dX8_gather_29 : decode cX8_gather 29 = .ok (.iload_n 1, 1) := by decide +kernel
theorem dX8_gather_30 : decode cX8_gather 30 = .ok (.if_icmp .ne 20, 3) := by decide +kernel
theorem dX8_gather_33 : decode cX8_gather 33 = .ok (.aload_n 0, 1) := by decide +kernel
theorem dX8_gather_34 : decode cX8_gather 34 = .ok (.getfield 25, 3) := by decide +kernel
theorem dX8_gather_37 : decode cX8_gather 37 = .ok (.iload 4, 2) := by decide +kernel
theorem dX8_gather_39 : decode cX8_gather 39 = .ok (.aload_n 0, 1) := by decide +kernel
theorem dX8_gather_40 : decode cX8_gather 40 = .ok (.getfield 7, 3) := by decide +kernel
theorem dX8_gather_43 : decode cX8_gather 43 = .ok (.iload 5, 2) := by decide +kernel
theorem dX8_gather_45 : decode cX8_gather 45 = .ok (.iaload, 1) := by decide +kernel
theorem dX8_gather_46 : decode cX8_gather 46 = .ok (.iastore, 1) := by decide +kernel
theorem dX8_gather_47 : decode cX8_gather 47 = .ok (.iinc 4 1, 3) := by decide +kernel
theorem dX8_gather_50 : decode cX8_gather 50 = .ok (.iinc 5 1, 3) := by decide +kernel
theorem dX8_gather_53 : decode cX8_gather 53 = .ok (.goto (-47), 3) := by decide +kernel
theorem dX8_gather_56 : decode cX8_gather 56 = .ok (.iload 4, 2) := by decide +kernel
theorem dX8_gather_58 : decode cX8_gather 58 = .ok (.ireturn, 1) := by decide +kernel
set_option maxRecDepth 20000 in
theorem ggX8_goes_X8_place : GoodIn wsX8_goes wsX8_place := goodIn_r _ [7, 8, 9, 6, 10, 11, 12, 13, 14, 15, 16, 17, 18, 19, 20, 21, 22, 23, 24, 25, 26, 27, 28, 29, 30, 31, 32, 33, 34, 35, 36, 37, 38, 39, 40, 41] (by decide +kernel) (by decide +kernel)
set_option maxRecDepth 20000 in
theorem gX8_goes_X8_place : GoodIn wsX8_goes (va_wsS RX8 133 yX8_place wsX8_place) := goodIn_app (goodIn_of _ (by decide +kernel)) ggX8_goes_X8_place
theorem dX8_goes_0 : decode cX8_goes 0 = .ok (.iconst 1, 1) := by decide +kernel
theorem dX8_goes_1 : decode cX8_goes 1 = .ok (.istore 4, 2) := by decide +kernel
theorem dX8_goes_3 : decode cX8_goes 3 = .ok (.iconst 0, 1) := by decide +kernel
theorem dX8_goes_4 : decode cX8_goes 4 = .ok (.istore 5, 2) := by decide +kernel
theorem dX8_goes_6 : decode cX8_goes 6 = .ok (.iload 5, 2) := by decide +kernel
theorem dX8_goes_8 : decode cX8_goes 8 = .ok (.iload_n 1, 1) := by decide +kernel
theorem dX8_goes_9 : decode cX8_goes 9 = .ok (.if_icmp .ge 99, 3) := by decide +kernel
theorem dX8_goes_12 : decode cX8_goes 12 = .ok (.iload 4, 2) := by decide +kernel
theorem dX8_goes_14 : decode cX8_goes 14 = .ok (.ifCond .eq 94, 3) := by decide +kernel
theorem dX8_goes_17 : decode cX8_goes 17 = .ok (.aload_n 0, 1) := by decide +kernel
theorem dX8_goes_18 : decode cX8_goes 18 = .ok (.getfield 25, 3) := by decide +kernel
theorem dX8_goes_21 : decode cX8_goes 21 = .ok (.iload 5, 2) := by decide +kernel
theorem dX8_goes_23 : decode cX8_goes 23 = .ok (.iaload, 1) := by decide +kernel
theorem dX8_goes_24 : decode cX8_goes 24 = .ok (.iload_n 2, 1) := by decide +kernel
theorem dX8_goes_25 : decode cX8_goes 25 = .ok (.iload_n 3, 1) := by decide +kernel
theorem dX8_goes_26 : decode cX8_goes 26 = .ok (.aload_n 0, 1) := by decide +kernel
theorem dX8_goes_27 : decode cX8_goes 27 = .ok (.getfield 99, 3) := by decide +kernel
theorem dX8_goes_30 : decode cX8_goes 30 = .ok (.invokestatic 133, 3) := by decide +kernel
theorem dX8_goes_33 : decode cX8_goes 33 = .ok (.istore 6, 2) := by decide +kernel
theorem dX8_goes_35 : decode cX8_goes 35 = .ok (.aload_n 0, 1) := by decide +kernel
theorem dX8_goes_36 : decode cX8_goes 36 = .ok (.getfield 31, 3) := by decide +kernel
theorem dX8_goes_39 : decode cX8_goes 39 = .ok (.iload 6, 2) := by decide +kernel
theorem dX8_goes_41 : decode cX8_goes 41 = .ok (.iaload, 1) := by decide +kernel
theorem dX8_goes_42 : decode cX8_goes 42 = .ok (.iconst (-1), 1) := by decide +kernel
theorem dX8_goes_43 : decode cX8_goes 43 = .ok (.if_icmp .ne 7, 3) := by decide +kernel
theorem dX8_goes_46 : decode cX8_goes 46 = .ok (.iconst 1, 1) := by decide +kernel
theorem dX8_goes_47 : decode cX8_goes 47 = .ok (.goto 4, 3) := by decide +kernel
theorem dX8_goes_50 : decode cX8_goes 50 = .ok (.iconst 0, 1) := by decide +kernel
theorem dX8_goes_51 : decode cX8_goes 51 = .ok (.istore 4, 2) := by decide +kernel
theorem dX8_goes_53 : decode cX8_goes 53 = .ok (.iconst 0, 1) := by decide +kernel
theorem dX8_goes_54 : decode cX8_goes 54 = .ok (.istore 7, 2) := by decide +kernel
theorem dX8_goes_56 : decode cX8_goes 56 = .ok (.iload 7, 2) := by decide +kernel
theorem dX8_goes_58 : decode cX8_goes 58 = .ok (.iload 5, 2) := by decide +kernel
theorem dX8_goes_60 : decode cX8_goes 60 = .ok (.if_icmp .ge 42, 3) := by decide +kernel
theorem dX8_goes_63 : decode cX8_goes 63 = .ok (.iload 4, 2) := by decide +kernel
theorem dX8_goes_65 : decode cX8_goes 65 = .ok (.ifCond .eq 37, 3) := by decide +kernel
theorem dX8_goes_68 : decode cX8_goes 68 = .ok (.aload_n 0, 1) := by decide +kernel
theorem dX8_goes_69 : decode cX8_goes 69 = .ok (.getfield 25, 3) := by decide +kernel
theorem dX8_goes_72 : decode cX8_goes 72 = .ok (.iload 7, 2) := by decide +kernel
theorem dX8_goes_74 : decode cX8_goes 74 = .ok (.iaload, 1) := by decide +kernel
theorem dX8_goes_75 : decode cX8_goes 75 = .ok (.iload_n 2, 1) := by decide +kernel
theorem dX8_goes_76 : decode cX8_goes 76 = .ok (.iload_n 3, 1) := by decide +kernel
theorem dX8_goes_77 : decode cX8_goes 77 = .ok (.aload_n 0, 1) := by decide +kernel
theorem dX8_goes_78 : decode cX8_goes 78 = .ok (.getfield 99, 3) := by decide +kernel
theorem dX8_goes_81 : decode cX8_goes 81 = .ok (.invokestatic 133, 3) := by decide +kernel
theorem dX8_goes_84 : decode cX8_goes 84 = .ok (.iload 6, 2) := by decide +kernel
theorem dX8_goes_86 : decode cX8_goes 86 = .ok (.if_icmp .eq 7, 3) := by decide +kernel
theorem dX8_goes_89 : decode cX8_goes 89 = .ok (.iconst 1, 1) := by decide +kernel
theorem dX8_goes_90 : decode cX8_goes 90 = .ok (.goto 4, 3) := by decide +kernel
theorem dX8_goes_93 : decode cX8_goes 93 = .ok (.iconst 0, 1) := by decide +kernel
theorem dX8_goes_94 : decode cX8_goes 94 = .ok (.istore 4, 2) := by decide +kernel
theorem dX8_goes_96 : decode cX8_goes 96 = .ok (.iinc 7 1, 3) := by decide +kernel
theorem dX8_goes_99 : decode cX8_goes 99 = .ok (.goto (-43), 3) := by decide +kernel
theorem dX8_goes_102 : decode cX8_goes 102 = .ok (.iinc 5 1, 3) := by decide +kernel
theorem dX8_goes_105 : decode cX8_goes 105 = .ok (.goto (-99), 3) := by decide +kernel
theorem dX8_goes_108 : decode cX8_goes 108 = .ok (.iload 4, 2) := by decide +kernel
theorem dX8_goes_110 : decode cX8_goes 110 = .ok (.ireturn, 1) := by decide +kernel
set_option maxRecDepth 20000 in
theorem ggX8_lays_X8_gather : GoodIn wsX8_lays wsX8_gather := goodIn_r _ [9, 4, 10, 3, 11, 12, 8, 13, 14, 15, 16, 17, 18, 19, 20, 21, 22, 23, 24, 25, 26, 27, 28, 29, 30, 31, 32, 33, 34, 35, 36, 37, 38, 39, 40, 41, 52, 53, 54, 55, 56, 57, 58, 59, 60, 61, 62, 63, 64, 65, 66, 67, 68, 69, 70, 71] (by decide +kernel) (by decide +kernel)
set_option maxRecDepth 20000 in
theorem gX8_lays_X8_gather : GoodIn wsX8_lays (wsV RX8 137 RX8 yX8_gather wsX8_gather) := goodIn_app (goodIn_of _ (by decide +kernel)) ggX8_lays_X8_gather
set_option maxRecDepth 20000 in
theorem ggX8_lays_X8_goes : GoodIn wsX8_lays wsX8_goes := goodIn_r _ [45, 3, 4, 2, 46, 47, 8, 48, 11, 12, 13, 14, 15, 16, 17, 18, 19, 20, 21, 22, 23, 24, 25, 26, 27, 28, 29, 30, 31, 32, 33, 34, 35, 36, 37, 38, 39, 40, 41, 49, 50, 51, 52, 53, 54, 55, 56, 57, 58, 59, 60, 61, 62, 63, 64, 65, 66, 67, 68, 69, 70, 71] (by decide +kernel) (by decide +kernel)
set_option maxRecDepth 20000 in
theorem gX8_lays_X8_goes : GoodIn wsX8_lays (wsV RX8 140 RX8 yX8_goes wsX8_goes) := goodIn_app (goodIn_of _ (by decide +kernel)) ggX8_lays_X8_goes
set_option maxRecDepth 20000 in
theorem ggX8_lays_X8_place : GoodIn wsX8_lays wsX8_place := goodIn_r _ [48, 11, 12, 8, 13, 14, 15, 16, 17, 18, 19, 20, 21, 22, 23, 24, 25, 26, 27, 28, 29, 30, 31, 32, 33, 34, 35, 36, 37, 38, 39, 40, 41, 49, 50, 51] (by decide +kernel) (by decide +kernel)
set_option maxRecDepth 20000 in
theorem gX8_lays_X8_place : GoodIn wsX8_lays (va_wsS RX8 133 yX8_place wsX8_place) := goodIn_app (goodIn_of _ (by decide +kernel)) ggX8_lays_X8_place
theorem dX8_lays_0 : decode cX8_lays 0 = .ok (.aload_n 0, 1) := by decide +kernel
theorem dX8_lays_1 : decode cX8_lays 1 = .ok (.iload_n 1, 1) := by decide +kernel
theorem dX8_lays_2 : decode cX8_lays 2 = .ok (.iload_n 2, 1) := by decide +kernel
theorem dX8_lays_3 : decode cX8_lays 3 = .ok (.iload_n 3, 1) := by decide +kernel
theorem dX8_lays_4 : decode cX8_lays 4 = .ok (.invokevirtual 137, 3) := by decide +kernel
theorem dX8_lays_7 : decode cX8_lays 7 = .ok (.istore 4, 2) := by decide +kernel
theorem dX8_lays_9 : decode cX8_lays 9 = .ok (.iconst 0, 1) := by decide +kernel
theorem dX8_lays_10 : decode cX8_lays 10 = .ok (.istore 5, 2) := by decide +kernel
theorem dX8_lays_12 : decode cX8_lays 12 = .ok (.iload 5, 2) := by decide +kernel
theorem dX8_lays_14 : decode cX8_lays 14 = .ok (.sipush 512, 3) := by decide +kernel
theorem dX8_lays_17 : decode cX8_lays 17 = .ok (.if_icmp .ge 21, 3) := by decide +kernel
theorem dX8_lays_20 : decode cX8_lays 20 = .ok (.aload_n 0, 1) := by decide +kernel
theorem dX8_lays_21 : decode cX8_lays 21 = .ok (.iload 4, 2) := by decide +kernel
theorem dX8_lays_23 : decode cX8_lays 23 = .ok (.iload_n 2, 1) := by decide +kernel
theorem dX8_lays_24 : decode cX8_lays 24 = .ok (.iload 5, 2) := by decide +kernel
theorem dX8_lays_26 : decode cX8_lays 26 = .ok (.invokevirtual 140, 3) := by decide +kernel
theorem dX8_lays_29 : decode cX8_lays 29 = .ok (.ifCond .ne 9, 3) := by decide +kernel
theorem dX8_lays_32 : decode cX8_lays 32 = .ok (.iinc 5 1, 3) := by decide +kernel
theorem dX8_lays_35 : decode cX8_lays 35 = .ok (.goto (-23), 3) := by decide +kernel
theorem dX8_lays_38 : decode cX8_lays 38 = .ok (.iload 5, 2) := by decide +kernel
theorem dX8_lays_40 : decode cX8_lays 40 = .ok (.sipush 512, 3) := by decide +kernel
theorem dX8_lays_43 : decode cX8_lays 43 = .ok (.if_icmp .ne 5, 3) := by decide +kernel
theorem dX8_lays_46 : decode cX8_lays 46 = .ok (.iconst 0, 1) := by decide +kernel
theorem dX8_lays_47 : decode cX8_lays 47 = .ok (.ireturn, 1) := by decide +kernel
theorem dX8_lays_48 : decode cX8_lays 48 = .ok (.aload_n 0, 1) := by decide +kernel
theorem dX8_lays_49 : decode cX8_lays 49 = .ok (.getfield 28, 3) := by decide +kernel
theorem dX8_lays_52 : decode cX8_lays 52 = .ok (.iload_n 1, 1) := by decide +kernel
theorem dX8_lays_53 : decode cX8_lays 53 = .ok (.iload 5, 2) := by decide +kernel
theorem dX8_lays_55 : decode cX8_lays 55 = .ok (.iastore, 1) := by decide +kernel
theorem dX8_lays_56 : decode cX8_lays 56 = .ok (.iconst 0, 1) := by decide +kernel
theorem dX8_lays_57 : decode cX8_lays 57 = .ok (.istore 6, 2) := by decide +kernel
theorem dX8_lays_59 : decode cX8_lays 59 = .ok (.iload 6, 2) := by decide +kernel
theorem dX8_lays_61 : decode cX8_lays 61 = .ok (.iload 4, 2) := by decide +kernel
theorem dX8_lays_63 : decode cX8_lays 63 = .ok (.if_icmp .ge 38, 3) := by decide +kernel
theorem dX8_lays_66 : decode cX8_lays 66 = .ok (.aload_n 0, 1) := by decide +kernel
theorem dX8_lays_67 : decode cX8_lays 67 = .ok (.getfield 31, 3) := by decide +kernel
theorem dX8_lays_70 : decode cX8_lays 70 = .ok (.aload_n 0, 1) := by decide +kernel
theorem dX8_lays_71 : decode cX8_lays 71 = .ok (.getfield 25, 3) := by decide +kernel
theorem dX8_lays_74 : decode cX8_lays 74 = .ok (.iload 6, 2) := by decide +kernel
theorem dX8_lays_76 : decode cX8_lays 76 = .ok (.iaload, 1) := by decide +kernel
theorem dX8_lays_77 : decode cX8_lays 77 = .ok (.iload_n 2, 1) := by decide +kernel
theorem dX8_lays_78 : decode cX8_lays 78 = .ok (.iload 5, 2) := by decide +kernel
theorem dX8_lays_80 : decode cX8_lays 80 = .ok (.aload_n 0, 1) := by decide +kernel
theorem dX8_lays_81 : decode cX8_lays 81 = .ok (.getfield 99, 3) := by decide +kernel
theorem dX8_lays_84 : decode cX8_lays 84 = .ok (.invokestatic 133, 3) := by decide +kernel
theorem dX8_lays_87 : decode cX8_lays 87 = .ok (.aload_n 0, 1) := by decide +kernel
theorem dX8_lays_88 : decode cX8_lays 88 = .ok (.getfield 25, 3) := by decide +kernel
theorem dX8_lays_91 : decode cX8_lays 91 = .ok (.iload 6, 2) := by decide +kernel
theorem dX8_lays_93 : decode cX8_lays 93 = .ok (.iaload, 1) := by decide +kernel
theorem dX8_lays_94 : decode cX8_lays 94 = .ok (.iastore, 1) := by decide +kernel
theorem dX8_lays_95 : decode cX8_lays 95 = .ok (.iinc 6 1, 3) := by decide +kernel
theorem dX8_lays_98 : decode cX8_lays 98 = .ok (.goto (-39), 3) := by decide +kernel
theorem dX8_lays_101 : decode cX8_lays 101 = .ok (.iconst 1, 1) := by decide +kernel
theorem dX8_lays_102 : decode cX8_lays 102 = .ok (.ireturn, 1) := by decide +kernel
set_option maxRecDepth 20000 in
theorem ggX8_displaces_X8_gather : GoodIn wsX8_displaces wsX8_gather := goodIn_r _ [7, 8, 9, 10, 11, 12, 6, 13, 14, 15, 16, 17, 18, 19, 20, 21, 22, 23, 24, 25, 26, 27, 28, 29, 30, 31, 32, 33, 34, 35, 36, 37, 38, 39, 40, 41, 56, 57, 58, 59, 60, 61, 62, 63, 64, 65, 66, 67, 68, 69, 70, 71, 72, 73, 74, 75] (by decide +kernel) (by decide +kernel)
set_option maxRecDepth 20000 in
theorem gX8_displaces_X8_gather : GoodIn wsX8_displaces (wsV RX8 137 RX8 yX8_gather wsX8_gather) := goodIn_app (goodIn_of _ (by decide +kernel)) ggX8_displaces_X8_gather
set_option maxRecDepth 20000 in
theorem ggX8_displaces_X8_lays : GoodIn wsX8_displaces wsX8_lays := goodIn_r _ [45, 2, 1, 10, 8, 3, 4, 5, 6, 7, 9, 11, 12, 13, 14, 15, 16, 17, 18, 19, 20, 21, 22, 23, 24, 25, 26, 27, 28, 29, 30, 31, 32, 33, 34, 35, 36, 37, 38, 39, 40, 41, 46, 47, 48, 49, 50, 51, 52, 53, 54, 55, 56, 57, 58, 59, 60, 61, 62, 63, 64, 65, 66, 67, 68, 69, 70, 71, 72, 73, 74, 75] (by decide +kernel) (by decide +kernel)
set_option maxRecDepth 20000 in
theorem gX8_displaces_X8_lays : GoodIn wsX8_displaces (wsV RX8 143 RX8 yX8_lays wsX8_lays) := goodIn_app (goodIn_of _ (by decide +kernel)) ggX8_displaces_X8_lays
theorem dX8_displaces_0 : decode cX8_displaces 0 = .ok (.iconst 0, 1) := by decide +kernel
theorem dX8_displaces_1 : decode cX8_displaces 1 = .ok (.istore_n 3, 1) := by decide +kernel
theorem dX8_displaces_2 : decode cX8_displaces 2 = .ok (.iconst 0, 1) := by decide +kernel
theorem dX8_displaces_3 : decode cX8_displaces 3 = .ok (.istore 4, 2) := by decide +kernel
theorem dX8_displaces_5 : decode cX8_displaces 5 = .ok (.iload 4, 2) := by decide +kernel
theorem dX8_displaces_7 : decode cX8_displaces 7 = .ok (.bipush 120, 2) := by decide +kernel
theorem dX8_displaces_9 : decode cX8_displaces 9 = .ok (.if_icmp .ge 25, 3) := by decide +kernel
theorem dX8_displaces_12 : decode cX8_displaces 12 = .ok (.aload_n 0, 1) := by decide +kernel
theorem dX8_displaces_13 : decode cX8_displaces 13 = .ok (.getfield 31, 3) := by decide +kernel
theorem dX8_displaces_16 : decode cX8_displaces 16 = .ok (.iload 4, 2) := by decide +kernel
theorem dX8_displaces_18 : decode cX8_displaces 18 = .ok (.iconst (-1), 1) := by decide +kernel
theorem dX8_displaces_19 : decode cX8_displaces 19 = .ok (.iastore, 1) := by decide +kernel
theorem dX8_displaces_20 : decode cX8_displaces 20 = .ok (.aload_n 0, 1) := by decide +kernel
theorem dX8_displaces_21 : decode cX8_displaces 21 = .ok (.getfield 28, 3) := by decide +kernel
theorem dX8_displaces_24 : decode cX8_displaces 24 = .ok (.iload 4, 2) := by decide +kernel
theorem dX8_displaces_26 : decode cX8_displaces 26 = .ok (.iconst 0, 1) := by decide +kernel
theorem dX8_displaces_27 : decode cX8_displaces 27 = .ok (.iastore, 1) := by decide +kernel
theorem dX8_displaces_28 : decode cX8_displaces 28 = .ok (.iinc 4 1, 3) := by decide +kernel
theorem dX8_displaces_31 : decode cX8_displaces 31 = .ok (.goto (-26), 3) := by decide +kernel
theorem dX8_displaces_34 : decode cX8_displaces 34 = .ok (.iconst 0, 1) := by decide +kernel
theorem dX8_displaces_35 : decode cX8_displaces 35 = .ok (.istore 4, 2) := by decide +kernel
theorem dX8_displaces_37 : decode cX8_displaces 37 = .ok (.iload 4, 2) := by decide +kernel
theorem dX8_displaces_39 : decode cX8_displaces 39 = .ok (.iload_n 2, 1) := by decide +kernel
theorem dX8_displaces_40 : decode cX8_displaces 40 = .ok (.if_icmp .ge 32, 3) := by decide +kernel
theorem dX8_displaces_43 : decode cX8_displaces 43 = .ok (.aload_n 0, 1) := by decide +kernel
theorem dX8_displaces_44 : decode cX8_displaces 44 = .ok (.iload 4, 2) := by decide +kernel
theorem dX8_displaces_46 : decode cX8_displaces 46 = .ok (.iload_n 1, 1) := by decide +kernel
theorem dX8_displaces_47 : decode cX8_displaces 47 = .ok (.iload_n 2, 1) := by decide +kernel
theorem dX8_displaces_48 : decode cX8_displaces 48 = .ok (.invokevirtual 137, 3) := by decide +kernel
theorem dX8_displaces_51 : decode cX8_displaces 51 = .ok (.istore 5, 2) := by decide +kernel
theorem dX8_displaces_53 : decode cX8_displaces 53 = .ok (.iload 5, 2) := by decide +kernel
theorem dX8_displaces_55 : decode cX8_displaces 55 = .ok (.iload_n 3, 1) := by decide +kernel
theorem dX8_displaces_56 : decode cX8_displaces 56 = .ok (.if_icmp .le 8, 3) := by decide +kernel
theorem dX8_displaces_59 : decode cX8_displaces 59 = .ok (.iload 5, 2) := by decide +kernel
theorem dX8_displaces_61 : decode cX8_displaces 61 = .ok (.goto 4, 3) := by decide +kernel
theorem dX8_displaces_64 : decode cX8_displaces 64 = .ok (.iload_n 3, 1) := by decide +kernel
theorem dX8_displaces_65 : decode cX8_displaces 65 = .ok (.istore_n 3, 1) := by decide +kernel
theorem dX8_displaces_66 : decode cX8_displaces 66 = .ok (.iinc 4 1, 3) := by decide +kernel
theorem dX8_displaces_69 : decode cX8_displaces 69 = .ok (.goto (-32), 3) := by decide +kernel
theorem dX8_displaces_72 : decode cX8_displaces 72 = .ok (.iconst 1, 1) := by decide +kernel
theorem dX8_displaces_73 : decode cX8_displaces 73 = .ok (.istore 4, 2) := by decide +kernel
theorem dX8_displaces_75 : decode cX8_displaces 75 = .ok (.iload_n 3, 1) := by decide +kernel
theorem dX8_displaces_76 : decode cX8_displaces 76 = .ok (.istore 5, 2) := by decide +kernel
theorem dX8_displaces_78 : decode cX8_displaces 78 = .ok (.iload 5, 2) := by decide +kernel
theorem dX8_displaces_80 : decode cX8_displaces 80 = .ok (.ifCond .le 65, 3) := by decide +kernel
theorem dX8_displaces_83 : decode cX8_displaces 83 = .ok (.iload 4, 2) := by decide +kernel
theorem dX8_displaces_85 : decode cX8_displaces 85 = .ok (.ifCond .eq 60, 3) := by decide +kernel
theorem dX8_displaces_88 : decode cX8_displaces 88 = .ok (.iconst 0, 1) := by decide +kernel
theorem dX8_displaces_89 : decode cX8_displaces 89 = .ok (.istore 6, 2) := by decide +kernel
theorem dX8_displaces_91 : decode cX8_displaces 91 = .ok (.iload 6, 2) := by decide +kernel
theorem dX8_displaces_93 : decode cX8_displaces 93 = .ok (.iload_n 2, 1) := by decide +kernel
theorem dX8_displaces_94 : decode cX8_displaces 94 = .ok (.if_icmp .ge 45, 3) := by decide +kernel
theorem dX8_displaces_97 : decode cX8_displaces 97 = .ok (.iload 4, 2) := by decide +kernel
theorem dX8_displaces_99 : decode cX8_displaces 99 = .ok (.ifCond .eq 40, 3) := by decide +kernel
theorem dX8_displaces_102 : decode cX8_displaces 102 = .ok (.aload_n 0, 1) := by decide +kernel
theorem dX8_displaces_103 : decode cX8_displaces 103 = .ok (.iload 6, 2) := by decide +kernel
theorem dX8_displaces_105 : decode cX8_displaces 105 = .ok (.iload_n 1, 1) := by decide +kernel
theorem dX8_displaces_106 : decode cX8_displaces 106 = .ok (.iload_n 2, 1) := by decide +kernel
theorem dX8_displaces_107 : decode cX8_displaces 107 = .ok (.invokevirtual 137, 3) := by decide +kernel
theorem dX8_displaces_110 : decode cX8_displaces 110 = .ok (.iload 5, 2) := by decide +kernel
theorem dX8_displaces_112 : decode cX8_displaces 112 = .ok (.if_icmp .ne 14, 3) := by decide +kernel
theorem dX8_displaces_115 : decode cX8_displaces 115 = .ok (.aload_n 0, 1) := by decide +kernel
theorem dX8_displaces_116 : decode cX8_displaces 116 = .ok (.iload 6, 2) := by decide +kernel
theorem dX8_displaces_118 : decode cX8_displaces 118 = .ok (.iload_n 1, 1) := by decide +kernel
theorem dX8_displaces_119 : decode cX8_displaces 119 = .ok (.iload_n 2, 1) := by decide +kernel
theorem dX8_displaces_120 : decode cX8_displaces 120 = .ok (.invokevirtual 143, 3) := by decide +kernel
theorem dX8_displaces_123 : decode cX8_displaces 123 = .ok (.ifCond .eq 7, 3) := by decide +kernel
theorem dX8_displaces_126 : decode cX8_displaces 126 = .ok (.iconst 1, 1) := by decide +kernel
theorem dX8_displaces_127 : decode cX8_displaces 127 = .ok (.goto 4, 3) := by decide +kernel
theorem dX8_displaces_130 : decode cX8_displaces 130 = .ok (.iconst 0, 1) := by decide +kernel
theorem dX8_displaces_131 : decode cX8_displaces 131 = .ok (.istore 4, 2) := by decide +kernel
theorem dX8_displaces_133 : decode cX8_displaces 133 = .ok (.iinc 6 1, 3) := by decide +kernel
theorem dX8_displaces_136 : decode cX8_displaces 136 = .ok (.goto (-45), 3) := by decide +kernel
theorem dX8_displaces_139 : decode cX8_displaces 139 = .ok (.iinc 5 (-1), 3) := by decide +kernel
theorem dX8_displaces_142 : decode cX8_displaces 142 = .ok (.goto (-64), 3) := by decide +kernel
theorem dX8_displaces_145 : decode cX8_displaces 145 = .ok (.iload 4, 2) := by decide +kernel
theorem dX8_displaces_147 : decode cX8_displaces 147 = .ok (.ireturn, 1) := by decide +kernel
theorem dX8_root_0 : decode cX8_root 0 = .ok (.iload_n 1, 1) := by decide +kernel
theorem dX8_root_1 : decode cX8_root 1 = .ok (.istore_n 2, 1) := by decide +kernel
theorem dX8_root_2 : decode cX8_root 2 = .ok (.aload_n 0, 1) := by decide +kernel
theorem dX8_root_3 : decode cX8_root 3 = .ok (.getfield 41, 3) := by decide +kernel
theorem dX8_root_6 : decode cX8_root 6 = .ok (.iload_n 2, 1) := by decide +kernel
theorem dX8_root_7 : decode cX8_root 7 = .ok (.iaload, 1) := by decide +kernel
theorem dX8_root_8 : decode cX8_root 8 = .ok (.iload_n 2, 1) := by decide +kernel
theorem dX8_root_9 : decode cX8_root 9 = .ok (.if_icmp .eq 13, 3) := by decide +kernel
theorem dX8_root_12 : decode cX8_root 12 = .ok (.aload_n 0, 1) := by decide +kernel
theorem dX8_root_13 : decode cX8_root 13 = .ok (.getfield 41, 3) := by decide +kernel
theorem dX8_root_16 : decode cX8_root 16 = .ok (.iload_n 2, 1) := by decide +kernel
theorem dX8_root_17 : decode cX8_root 17 = .ok (.iaload, 1) := by decide +kernel
theorem dX8_root_18 : decode cX8_root 18 = .ok (.istore_n 2, 1) := by decide +kernel
theorem dX8_root_19 : decode cX8_root 19 = .ok (.goto (-17), 3) := by decide +kernel
theorem dX8_root_22 : decode cX8_root 22 = .ok (.iload_n 2, 1) := by decide +kernel
theorem dX8_root_23 : decode cX8_root 23 = .ok (.ireturn, 1) := by decide +kernel
set_option maxRecDepth 20000 in
theorem ggX8_hasNoCircle_X8_hash : GoodIn wsX8_hasNoCircle wsX8_hash := goodIn_r _ [8, 9, 10, 11, 7, 12, 13, 14, 15, 16, 17, 18, 19, 20, 21, 22, 23, 24, 25, 26, 27, 28, 29, 30, 31, 32, 33, 34, 35, 36] (by decide +kernel) (by decide +kernel)
set_option maxRecDepth 20000 in
theorem gX8_hasNoCircle_X8_hash : GoodIn wsX8_hasNoCircle (va_wsS RX8 126 yX8_hash wsX8_hash) := goodIn_app (goodIn_of _ (by decide +kernel)) ggX8_hasNoCircle_X8_hash
set_option maxRecDepth 20000 in
theorem ggX8_hasNoCircle_X8_root : GoodIn wsX8_hasNoCircle wsX8_root := goodIn_r _ [40, 2, 41, 42, 43, 44, 45, 46, 47, 48, 49, 50, 51, 52, 53, 54, 55, 56, 57, 58, 59, 60] (by decide +kernel) (by decide +kernel)
set_option maxRecDepth 20000 in
theorem gX8_hasNoCircle_X8_root : GoodIn wsX8_hasNoCircle (wsV RX8 146 RX8 yX8_root wsX8_root) := goodIn_app (goodIn_of _ (by decide +kernel)) ggX8_hasNoCircle_X8_root
theorem dX8_hasNoCircle_0 : decode cX8_hasNoCircle 0 = .ok (.iconst 0, 1) := by decide +kernel
theorem dX8_hasNoCircle_1 : decode cX8_hasNoCircle 1 = .ok (.istore_n 2, 1) := by decide +kernel
theorem dX8_hasNoCircle_2 : decode cX8_hasNoCircle 2 = .ok (.iload_n 2, 1) := by decide +kernel
theorem dX8_hasNoCircle_3 : decode cX8_hasNoCircle 3 = .ok (.iconst 3, 1) := by decide +kernel
theorem dX8_hasNoCircle_4 : decode cX8_hasNoCircle 4 = .ok (.aload_n 0, 1) := by decide +kernel
theorem dX8_hasNoCircle_5 : decode cX8_hasNoCircle 5 = .ok (.getfield 99, 3) := by decide +kernel
theorem dX8_hasNoCircle_8 : decode cX8_hasNoCircle 8 = .ok (.imul, 1) := by decide +kernel
theorem dX8_hasNoCircle_9 : decode cX8_hasNoCircle 9 = .ok (.if_icmp .ge 16, 3) := by decide +kernel
theorem dX8_hasNoCircle_12 : decode cX8_hasNoCircle 12 = .ok (.aload_n 0, 1) := by decide +kernel
theorem dX8_hasNoCircle_13 : decode cX8_hasNoCircle 13 = .ok (.getfield 41, 3) := by decide +kernel
theorem dX8_hasNoCircle_16 : decode cX8_hasNoCircle 16 = .ok (.iload_n 2, 1) := by decide +kernel
theorem dX8_hasNoCircle_17 : decode cX8_hasNoCircle 17 = .ok (.iload_n 2, 1) := by decide +kernel
theorem dX8_hasNoCircle_18 : decode cX8_hasNoCircle 18 = .ok (.iastore, 1) := by decide +kernel
theorem dX8_hasNoCircle_19 : decode cX8_hasNoCircle 19 = .ok (.iinc 2 1, 3) := by decide +kernel
theorem dX8_hasNoCircle_22 : decode cX8_hasNoCircle 22 = .ok (.goto (-20), 3) := by decide +kernel
theorem dX8_hasNoCircle_25 : decode cX8_hasNoCircle 25 = .ok (.iconst 1, 1) := by decide +kernel
theorem dX8_hasNoCircle_26 : decode cX8_hasNoCircle 26 = .ok (.istore_n 2, 1) := by decide +kernel
theorem dX8_hasNoCircle_27 : decode cX8_hasNoCircle 27 = .ok (.iconst 0, 1) := by decide +kernel
theorem dX8_hasNoCircle_28 : decode cX8_hasNoCircle 28 = .ok (.istore_n 3, 1) := by decide +kernel
theorem dX8_hasNoCircle_29 : decode cX8_hasNoCircle 29 = .ok (.iload_n 3, 1) := by decide +kernel
theorem dX8_hasNoCircle_30 : decode cX8_hasNoCircle 30 = .ok (.aload_n 0, 1) := by decide +kernel
theorem dX8_hasNoCircle_31 : decode cX8_hasNoCircle 31 = .ok (.getfield 99, 3) := by decide +kernel
theorem dX8_hasNoCircle_34 : decode cX8_hasNoCircle 34 = .ok (.if_icmp .ge 143, 3) := by decide +kernel
theorem dX8_hasNoCircle_37 : decode cX8_hasNoCircle 37 = .ok (.iload_n 2, 1) := by decide +kernel
theorem dX8_hasNoCircle_38 : decode cX8_hasNoCircle 38 = .ok (.ifCond .eq 139, 3) := by decide +kernel
theorem dX8_hasNoCircle_41 : decode cX8_hasNoCircle 41 = .ok (.aload_n 0, 1) := by decide +kernel
theorem dX8_hasNoCircle_42 : decode cX8_hasNoCircle 42 = .ok (.getfield 44, 3) := by decide +kernel
theorem dX8_hasNoCircle_45 : decode cX8_hasNoCircle 45 = .ok (.iconst 2, 1) := by decide +kernel
theorem dX8_hasNoCircle_46 : decode cX8_hasNoCircle 46 = .ok (.iload_n 3, 1) := by decide +kernel
theorem dX8_hasNoCircle_47 : decode cX8_hasNoCircle 47 = .ok (.imul, 1) := by decide +kernel
theorem dX8_hasNoCircle_48 : decode cX8_hasNoCircle 48 = .ok (.iconst 4, 1) := by decide +kernel
theorem dX8_hasNoCircle_49 : decode cX8_hasNoCircle 49 = .ok (.aload_n 0, 1) := by decide +kernel
theorem dX8_hasNoCircle_50 : decode cX8_hasNoCircle 50 = .ok (.getfield 7, 3) := by decide +kernel
theorem dX8_hasNoCircle_53 : decode cX8_hasNoCircle 53 = .ok (.iload_n 3, 1) := by decide +kernel
theorem dX8_hasNoCircle_54 : decode cX8_hasNoCircle 54 = .ok (.iaload, 1) := by decide +kernel
theorem dX8_hasNoCircle_55 : decode cX8_hasNoCircle 55 = .ok (.iload_n 1, 1) := by decide +kernel
theorem dX8_hasNoCircle_56 : decode cX8_hasNoCircle 56 = .ok (.invokestatic 126, 3) := by decide +kernel
theorem dX8_hasNoCircle_59 : decode cX8_hasNoCircle 59 = .ok (.iconst 3, 1) := by decide +kernel
theorem dX8_hasNoCircle_60 : decode cX8_hasNoCircle 60 = .ok (.aload_n 0, 1) := by decide +kernel
theorem dX8_hasNoCircle_61 : decode cX8_hasNoCircle 61 = .ok (.getfield 99, 3) := by decide +kernel
theorem dX8_hasNoCircle_64 : decode cX8_hasNoCircle 64 = .ok (.imul, 1) := by decide +kernel
theorem dX8_hasNoCircle_65 : decode cX8_hasNoCircle 65 = .ok (.irem, 1) := by decide +kernel
theorem dX8_hasNoCircle_66 : decode cX8_hasNoCircle 66 = .ok (.iastore, 1) := by decide +kernel
theorem dX8_hasNoCircle_67 : decode cX8_hasNoCircle 67 = .ok (.aload_n 0, 1) := by decide +kernel
theorem dX8_hasNoCircle_68 : decode cX8_hasNoCircle 68 = .ok (.getfield 44, 3) := by decide +kernel
theorem dX8_hasNoCircle_71 : decode cX8_hasNoCircle 71 = .ok (.iconst 2, 1) := by decide +kernel
theorem dX8_hasNoCircle_72 : decode cX8_hasNoCircle 72 = .ok (.iload_n 3, 1) := by decide +kernel
theorem dX8_hasNoCircle_73 : decode cX8_hasNoCircle 73 = .ok (.imul, 1) := by decide +kernel
theorem dX8_hasNoCircle_74 : decode cX8_hasNoCircle 74 = .ok (.iconst 1, 1) := by decide +kernel
theorem dX8_hasNoCircle_75 : decode cX8_hasNoCircle 75 = .ok (.iadd, 1) := by decide +kernel
theorem dX8_hasNoCircle_76 : decode cX8_hasNoCircle 76 = .ok (.iconst 5, 1) := by decide +kernel
theorem dX8_hasNoCircle_77 : decode cX8_hasNoCircle 77 = .ok (.aload_n 0, 1) := by decide +kernel
theorem dX8_hasNoCircle_78 : decode cX8_hasNoCircle 78 = .ok (.getfield 7, 3) := by decide +kernel
theorem dX8_hasNoCircle_81 : decode cX8_hasNoCircle 81 = .ok (.iload_n 3, 1) := by decide +kernel
theorem dX8_hasNoCircle_82 : decode cX8_hasNoCircle 82 = .ok (.iaload, 1) := by decide +kernel
theorem dX8_hasNoCircle_83 : decode cX8_hasNoCircle 83 = .ok (.iload_n 1, 1) := by decide +kernel
theorem dX8_hasNoCircle_84 : decode cX8_hasNoCircle 84 = .ok (.invokestatic 126, 3) := by decide +kernel
theorem dX8_hasNoCircle_87 : decode cX8_hasNoCircle 87 = .ok (.iconst 3, 1) := by decide +kernel
theorem dX8_hasNoCircle_88 : decode cX8_hasNoCircle 88 = .ok (.aload_n 0, 1) := by decide +kernel
theorem dX8_hasNoCircle_89 : decode cX8_hasNoCircle 89 = .ok (.getfield 99, 3) := by decide +kernel
theorem dX8_hasNoCircle_92 : decode cX8_hasNoCircle 92 = .ok (.imul, 1) := by decide +kernel
theorem dX8_hasNoCircle_93 : decode cX8_hasNoCircle 93 = .ok (.irem, 1) := by decide +kernel
theorem dX8_hasNoCircle_94 : decode cX8_hasNoCircle 94 = .ok (.iastore, 1) := by decide +kernel
theorem dX8_hasNoCircle_95 : decode cX8_hasNoCircle 95 = .ok (.aload_n 0, 1) := by decide +kernel
theorem dX8_hasNoCircle_96 : decode cX8_hasNoCircle 96 = .ok (.aload_n 0, 1) := by decide +kernel
theorem dX8_hasNoCircle_97 : decode cX8_hasNoCircle 97 = .ok (.getfield 44, 3) := by decide +kernel
theorem dX8_hasNoCircle_100 : decode cX8_hasNoCircle 100 = .ok (.iconst 2, 1) := by decide +kernel
theorem dX8_hasNoCircle_101 : decode cX8_hasNoCircle 101 = .ok (.iload_n 3, 1) := by decide +kernel
theorem dX8_hasNoCircle_102 : decode cX8_hasNoCircle 102 = .ok (.imul, 1) := by decide +kernel
theorem dX8_hasNoCircle_103 : decode cX8_hasNoCircle 103 = .ok (.iaload, 1) := by decide +kernel
theorem dX8_hasNoCircle_104 : decode cX8_hasNoCircle 104 = .ok (.invokevirtual 146, 3) := by decide +kernel
theorem dX8_hasNoCircle_107 : decode cX8_hasNoCircle 107 = .ok (.istore 4, 2) := by decide +kernel
theorem dX8_hasNoCircle_109 : decode cX8_hasNoCircle 109 = .ok (.aload_n 0, 1) := by decide +kernel
theorem dX8_hasNoCircle_110 : decode cX8_hasNoCircle 110 = .ok (.aload_n 0, 1) := by decide +kernel
theorem dX8_hasNoCircle_111 : decode cX8_hasNoCircle 111 = .ok (.getfield 44, 3) := by decide +kernel
theorem dX8_hasNoCircle_114 : decode cX8_hasNoCircle 114 = .ok (.iconst 2, 1) := by decide +kernel
theorem dX8_hasNoCircle_115 : decode cX8_hasNoCircle 115 = .ok (.iload_n 3, 1) := by decide +kernel
theorem dX8_hasNoCircle_116 : decode cX8_hasNoCircle 116 = .ok (.imul, 1) := by decide +kernel
theorem dX8_hasNoCircle_117 : decode cX8_hasNoCircle 117 = .ok (.iconst 1, 1) := by decide +kernel
theorem dX8_hasNoCircle_118 : decode cX8_hasNoCircle 118 = .ok (.iadd, 1) := by decide +kernel
theorem dX8_hasNoCircle_119 : decode cX8_hasNoCircle 119 = .ok (.iaload, 1) := by decide +kernel
theorem dX8_hasNoCircle_120 : decode cX8_hasNoCircle 120 = .ok (.invokevirtual 146, 3) := by decide +kernel
theorem dX8_hasNoCircle_123 : decode cX8_hasNoCircle 123 = .ok (.istore 5, 2) := by decide +kernel
theorem dX8_hasNoCircle_125 : decode cX8_hasNoCircle 125 = .ok (.iload 4, 2) := by decide +kernel
theorem dX8_hasNoCircle_127 : decode cX8_hasNoCircle 127 = .ok (.iload 5, 2) := by decide +kernel
theorem dX8_hasNoCircle_129 : decode cX8_hasNoCircle 129 = .ok (.if_icmp .eq 7, 3) := by decide +kernel
theorem dX8_hasNoCircle_132 : decode cX8_hasNoCircle 132 = .ok (.iconst 1, 1) := by decide +kernel
theorem dX8_hasNoCircle_133 : decode cX8_hasNoCircle 133 = .ok (.goto 4, 3) := by decide +kernel
theorem dX8_hasNoCircle_136 : decode cX8_hasNoCircle 136 = .ok (.iconst 0, 1) := by decide +kernel
theorem dX8_hasNoCircle_137 : decode cX8_hasNoCircle 137 = .ok (.istore_n 2, 1) := by decide +kernel
theorem dX8_hasNoCircle_138 : decode cX8_hasNoCircle 138 = .ok (.aload_n 0, 1) := by decide +kernel
theorem dX8_hasNoCircle_139 : decode cX8_hasNoCircle 139 = .ok (.getfield 41, 3) := by decide +kernel
theorem dX8_hasNoCircle_142 : decode cX8_hasNoCircle 142 = .ok (.iload 4, 2) := by decide +kernel
theorem dX8_hasNoCircle_144 : decode cX8_hasNoCircle 144 = .ok (.iload 5, 2) := by decide +kernel
theorem dX8_hasNoCircle_146 : decode cX8_hasNoCircle 146 = .ok (.if_icmp .le 8, 3) := by decide +kernel
theorem dX8_hasNoCircle_149 : decode cX8_hasNoCircle 149 = .ok (.iload 4, 2) := by decide +kernel
theorem dX8_hasNoCircle_151 : decode cX8_hasNoCircle 151 = .ok (.goto 5, 3) := by decide +kernel
theorem dX8_hasNoCircle_154 : decode cX8_hasNoCircle 154 = .ok (.iload 5, 2) := by decide +kernel
theorem dX8_hasNoCircle_156 : decode cX8_hasNoCircle 156 = .ok (.iload 4, 2) := by decide +kernel
theorem dX8_hasNoCircle_158 : decode cX8_hasNoCircle 158 = .ok (.iload 5, 2) := by decide +kernel
theorem dX8_hasNoCircle_160 : decode cX8_hasNoCircle 160 = .ok (.if_icmp .le 8, 3) := by decide +kernel
theorem dX8_hasNoCircle_163 : decode cX8_hasNoCircle 163 = .ok (.iload 5, 2) := by decide +kernel
theorem dX8_hasNoCircle_165 : decode cX8_hasNoCircle 165 = .ok (.goto 5, 3) := by decide +kernel
theorem dX8_hasNoCircle_168 : decode cX8_hasNoCircle 168 = .ok (.iload 4, 2) := by decide +kernel
theorem dX8_hasNoCircle_170 : decode cX8_hasNoCircle 170 = .ok (.iastore, 1) := by decide +kernel
theorem dX8_hasNoCircle_171 : decode cX8_hasNoCircle 171 = .ok (.iinc 3 1, 3) := by decide +kernel
theorem dX8_hasNoCircle_174 : decode cX8_hasNoCircle 174 = .ok (.goto (-145), 3) := by decide +kernel
theorem dX8_hasNoCircle_177 : decode cX8_hasNoCircle 177 = .ok (.iload_n 2, 1) := by decide +kernel
theorem dX8_hasNoCircle_178 : decode cX8_hasNoCircle 178 = .ok (.ireturn, 1) := by decide +kernel
set_option maxRecDepth 20000 in
theorem ggX8_layValues_X8_root : GoodIn wsX8_layValues wsX8_root := goodIn_r _ [8, 9, 10, 11, 12, 13, 14, 15, 16, 17, 18, 19, 20, 21, 22, 23, 24, 25, 26, 27, 28, 29] (by decide +kernel) (by decide +kernel)
set_option maxRecDepth 20000 in
theorem gX8_layValues_X8_root : GoodIn wsX8_layValues (wsV RX8 146 RX8 yX8_root wsX8_root) := goodIn_app (goodIn_of _ (by decide +kernel)) ggX8_layValues_X8_root
theorem dX8_layValues_0 : decode cX8_layValues 0 = .ok (.iconst 0, 1) := by decide +kernel
theorem dX8_layValues_1 : decode cX8_layValues 1 = .ok (.istore_n 1, 1) := by decide +kernel
theorem dX8_layValues_2 : decode cX8_layValues 2 = .ok (.iload_n 1, 1) := by decide +kernel
theorem dX8_layValues_3 : decode cX8_layValues 3 = .ok (.iconst 3, 1) := by decide +kernel
theorem dX8_layValues_4 : decode cX8_layValues 4 = .ok (.aload_n 0, 1) := by decide +kernel
theorem dX8_layValues_5 : decode cX8_layValues 5 = .ok (.getfield 99, 3) := by decide +kernel
theorem dX8_layValues_8 : decode cX8_layValues 8 = .ok (.imul, 1) := by decide +kernel
theorem dX8_layValues_9 : decode cX8_layValues 9 = .ok (.if_icmp .ge 29, 3) := by decide +kernel
theorem dX8_layValues_12 : decode cX8_layValues 12 = .ok (.aload_n 0, 1) := by decide +kernel
theorem dX8_layValues_13 : decode cX8_layValues 13 = .ok (.getfield 38, 3) := by decide +kernel
theorem dX8_layValues_16 : decode cX8_layValues 16 = .ok (.iload_n 1, 1) := by decide +kernel
theorem dX8_layValues_17 : decode cX8_layValues 17 = .ok (.aload_n 0, 1) := by decide +kernel
theorem dX8_layValues_18 : decode cX8_layValues 18 = .ok (.iload_n 1, 1) := by decide +kernel
theorem dX8_layValues_19 : decode cX8_layValues 19 = .ok (.invokevirtual 146, 3) := by decide +kernel
theorem dX8_layValues_22 : decode cX8_layValues 22 = .ok (.iload_n 1, 1) := by decide +kernel
theorem dX8_layValues_23 : decode cX8_layValues 23 = .ok (.if_icmp .ne 7, 3) := by decide +kernel
theorem dX8_layValues_26 : decode cX8_layValues 26 = .ok (.iconst 0, 1) := by decide +kernel
theorem dX8_layValues_27 : decode cX8_layValues 27 = .ok (.goto 4, 3) := by decide +kernel
theorem dX8_layValues_30 : decode cX8_layValues 30 = .ok (.iconst (-1), 1) := by decide +kernel
theorem dX8_layValues_31 : decode cX8_layValues 31 = .ok (.iastore, 1) := by decide +kernel
theorem dX8_layValues_32 : decode cX8_layValues 32 = .ok (.iinc 1 1, 3) := by decide +kernel
theorem dX8_layValues_35 : decode cX8_layValues 35 = .ok (.goto (-33), 3) := by decide +kernel
theorem dX8_layValues_38 : decode cX8_layValues 38 = .ok (.iconst 1, 1) := by decide +kernel
theorem dX8_layValues_39 : decode cX8_layValues 39 = .ok (.istore_n 1, 1) := by decide +kernel
theorem dX8_layValues_40 : decode cX8_layValues 40 = .ok (.iload_n 1, 1) := by decide +kernel
theorem dX8_layValues_41 : decode cX8_layValues 41 = .ok (.ifCond .eq 144, 3) := by decide +kernel
theorem dX8_layValues_44 : decode cX8_layValues 44 = .ok (.iconst 0, 1) := by decide +kernel
theorem dX8_layValues_45 : decode cX8_layValues 45 = .ok (.istore_n 1, 1) := by decide +kernel
theorem dX8_layValues_46 : decode cX8_layValues 46 = .ok (.iconst 0, 1) := by decide +kernel
theorem dX8_layValues_47 : decode cX8_layValues 47 = .ok (.istore_n 2, 1) := by decide +kernel
theorem dX8_layValues_48 : decode cX8_layValues 48 = .ok (.iload_n 2, 1) := by decide +kernel
theorem dX8_layValues_49 : decode cX8_layValues 49 = .ok (.aload_n 0, 1) := by decide +kernel
theorem dX8_layValues_50 : decode cX8_layValues 50 = .ok (.getfield 99, 3) := by decide +kernel
theorem dX8_layValues_53 : decode cX8_layValues 53 = .ok (.if_icmp .ge 129, 3) := by decide +kernel
theorem dX8_layValues_56 : decode cX8_layValues 56 = .ok (.aload_n 0, 1) := by decide +kernel
theorem dX8_layValues_57 : decode cX8_layValues 57 = .ok (.getfield 44, 3) := by decide +kernel
theorem dX8_layValues_60 : decode cX8_layValues 60 = .ok (.iconst 2, 1) := by decide +kernel
theorem dX8_layValues_61 : decode cX8_layValues 61 = .ok (.iload_n 2, 1) := by decide +kernel
theorem dX8_layValues_62 : decode cX8_layValues 62 = .ok (.imul, 1) := by decide +kernel
theorem dX8_layValues_63 : decode cX8_layValues 63 = .ok (.iaload, 1) := by decide +kernel
theorem dX8_layValues_64 : decode cX8_layValues 64 = .ok (.istore_n 3, 1) := by decide +kernel
theorem dX8_layValues_65 : decode cX8_layValues 65 = .ok (.aload_n 0, 1) := by decide +kernel
theorem dX8_layValues_66 : decode cX8_layValues 66 = .ok (.getfield 44, 3) := by decide +kernel
theorem dX8_layValues_69 : decode cX8_layValues 69 = .ok (.iconst 2, 1) := by decide +kernel
theorem dX8_layValues_70 : decode cX8_layValues 70 = .ok (.iload_n 2, 1) := by decide +kernel
theorem dX8_layValues_71 : decode cX8_layValues 71 = .ok (.imul, 1) := by decide +kernel
theorem dX8_layValues_72 : decode cX8_layValues 72 = .ok (.iconst 1, 1) := by decide +kernel
theorem dX8_layValues_73 : decode cX8_layValues 73 = .ok (.iadd, 1) := by decide +kernel
theorem dX8_layValues_74 : decode cX8_layValues 74 = .ok (.iaload, 1) := by decide +kernel
theorem dX8_layValues_75 : decode cX8_layValues 75 = .ok (.istore 4, 2) := by decide +kernel
theorem dX8_layValues_77 : decode cX8_layValues 77 = .ok (.aload_n 0, 1) := by decide +kernel
theorem dX8_layValues_78 : decode cX8_layValues 78 = .ok (.getfield 38, 3) := by decide +kernel
theorem dX8_layValues_81 : decode cX8_layValues 81 = .ok (.iload_n 3, 1) := by decide +kernel
theorem dX8_layValues_82 : decode cX8_layValues 82 = .ok (.iaload, 1) := by decide +kernel
theorem dX8_layValues_83 : decode cX8_layValues 83 = .ok (.iconst (-1), 1) := by decide +kernel
theorem dX8_layValues_84 : decode cX8_layValues 84 = .ok (.if_icmp .eq 44, 3) := by decide +kernel
theorem dX8_layValues_87 : decode cX8_layValues 87 = .ok (.aload_n 0, 1) := by decide +kernel
theorem dX8_layValues_88 : decode cX8_layValues 88 = .ok (.getfield 38, 3) := by decide +kernel
theorem dX8_layValues_91 : decode cX8_layValues 91 = .ok (.iload 4, 2) := by decide +kernel
theorem dX8_layValues_93 : decode cX8_layValues 93 = .ok (.iaload, 1) := by decide +kernel
theorem dX8_layValues_94 : decode cX8_layValues 94 = .ok (.iconst (-1), 1) := by decide +kernel
theorem dX8_layValues_95 : decode cX8_layValues 95 = .ok (.if_icmp .ne 33, 3) := by decide +kernel
theorem dX8_layValues_98 : decode cX8_layValues 98 = .ok (.aload_n 0, 1) := by decide +kernel
theorem dX8_layValues_99 : decode cX8_layValues 99 = .ok (.getfield 38, 3) := by decide +kernel
theorem dX8_layValues_102 : decode cX8_layValues 102 = .ok (.iload 4, 2) := by decide +kernel
theorem dX8_layValues_104 : decode cX8_layValues 104 = .ok (.iload_n 2, 1) := by decide +kernel
theorem dX8_layValues_105 : decode cX8_layValues 105 = .ok (.aload_n 0, 1) := by decide +kernel
theorem dX8_layValues_106 : decode cX8_layValues 106 = .ok (.getfield 99, 3) := by decide +kernel
theorem dX8_layValues_109 : decode cX8_layValues 109 = .ok (.iadd, 1) := by decide +kernel
theorem dX8_layValues_110 : decode cX8_layValues 110 = .ok (.aload_n 0, 1) := by decide +kernel
theorem dX8_layValues_111 : decode cX8_layValues 111 = .ok (.getfield 38, 3) := by decide +kernel
theorem dX8_layValues_114 : decode cX8_layValues 114 = .ok (.iload_n 3, 1) := by decide +kernel
theorem dX8_layValues_115 : decode cX8_layValues 115 = .ok (.iaload, 1) := by decide +kernel
theorem dX8_layValues_116 : decode cX8_layValues 116 = .ok (.isub, 1) := by decide +kernel
theorem dX8_layValues_117 : decode cX8_layValues 117 = .ok (.aload_n 0, 1) := by decide +kernel
theorem dX8_layValues_118 : decode cX8_layValues 118 = .ok (.getfield 99, 3) := by decide +kernel
theorem dX8_layValues_121 : decode cX8_layValues 121 = .ok (.irem, 1) := by decide +kernel
theorem dX8_layValues_122 : decode cX8_layValues 122 = .ok (.iastore, 1) := by decide +kernel
theorem dX8_layValues_123 : decode cX8_layValues 123 = .ok (.iconst 1, 1) := by decide +kernel
theorem dX8_layValues_124 : decode cX8_layValues 124 = .ok (.istore_n 1, 1) := by decide +kernel
theorem dX8_layValues_125 : decode cX8_layValues 125 = .ok (.goto 51, 3) := by decide +kernel
theorem dX8_layValues_128 : decode cX8_layValues 128 = .ok (.aload_n 0, 1) := by decide +kernel
theorem dX8_layValues_129 : decode cX8_layValues 129 = .ok (.getfield 38, 3) := by decide +kernel
theorem dX8_layValues_132 : decode cX8_layValues 132 = .ok (.iload 4, 2) := by decide +kernel
theorem dX8_layValues_134 : decode cX8_layValues 134 = .ok (.iaload, 1) := by decide +kernel
theorem dX8_layValues_135 : decode cX8_layValues 135 = .ok (.iconst (-1), 1) := by decide +kernel
theorem dX8_layValues_136 : decode cX8_layValues 136 = .ok (.if_icmp .eq 40, 3) := by decide +kernel
theorem dX8_layValues_139 : decode cX8_layValues 139 = .ok (.aload_n 0, 1) := by decide +kernel
theorem dX8_layValues_140 : decode cX8_layValues 140 = .ok (.getfield 38, 3) := by decide +kernel
theorem dX8_layValues_143 : decode cX8_layValues 143 = .ok (.iload_n 3, 1) := by decide +kernel
theorem dX8_layValues_144 : decode cX8_layValues 144 = .ok (.iaload, 1) := by decide +kernel
theorem dX8_layValues_145 : decode cX8_layValues 145 = .ok (.iconst (-1), 1) := by decide +kernel
theorem dX8_layValues_146 : decode cX8_layValues 146 = .ok (.if_icmp .ne 30, 3) := by decide +kernel
theorem dX8_layValues_149 : decode cX8_layValues 149 = .ok (.aload_n 0, 1) := by decide +kernel
theorem dX8_layValues_150 : decode cX8_layValues 150 = .ok (.getfield 38, 3) := by decide +kernel
theorem dX8_layValues_153 : decode cX8_layValues 153 = .ok (.iload_n 3, 1) := by decide +kernel
theorem dX8_layValues_154 : decode cX8_layValues 154 = .ok (.iload_n 2, 1) := by decide +kernel
theorem dX8_layValues_155 : decode cX8_layValues 155 = .ok (.aload_n 0, 1) := by decide +kernel
theorem dX8_layValues_156 : decode cX8_layValues 156 = .ok (.getfield 99, 3) := by decide +kernel
theorem dX8_layValues_159 : decode cX8_layValues 159 = .ok (.iadd, 1) := by decide +kernel
theorem dX8_layValues_160 : decode cX8_layValues 160 = .ok (.aload_n 0, 1) := by decide +kernel
theorem dX8_layValues_161 : decode cX8_layValues 161 = .ok (.getfield 38, 3) := by decide +kernel
theorem dX8_layValues_164 : decode cX8_layValues 164 = .ok (.iload 4, 2) := by decide +kernel
theorem dX8_layValues_166 : decode cX8_layValues 166 = .ok (.iaload, 1) := by decide +kernel
theorem dX8_layValues_167 : decode cX8_layValues 167 = .ok (.isub, 1) := by decide +kernel
theorem dX8_layValues_168 : decode cX8_layValues 168 = .ok (.aload_n 0, 1) := by decide +kernel
theorem dX8_layValues_169 : decode cX8_layValues 169 = .ok (.getfield 99, 3) := by decide +kernel
theorem dX8_layValues_172 : decode cX8_layValues 172 = .ok (.irem, 1) := by decide +kernel
theorem dX8_layValues_173 : decode cX8_layValues 173 = .ok (.iastore, 1) := by decide +kernel
theorem dX8_layValues_174 : decode cX8_layValues 174 = .ok (.iconst 1, 1) := by decide +kernel
theorem dX8_layValues_175 : decode cX8_layValues 175 = .ok (.istore_n 1, 1) := by decide +kernel
theorem dX8_layValues_176 : decode cX8_layValues 176 = .ok (.iinc 2 1, 3) := by decide +kernel
theorem dX8_layValues_179 : decode cX8_layValues 179 = .ok (.goto (-131), 3) := by decide +kernel
theorem dX8_layValues_182 : decode cX8_layValues 182 = .ok (.goto (-142), 3) := by decide +kernel
theorem dX8_layValues_185 : decode cX8_layValues 185 = .ok (.return_, 1) := by decide +kernel
theorem dX8_pack_0 : decode cX8_pack 0 = .ok (.iconst 1, 1) := by decide +kernel
theorem dX8_pack_1 : decode cX8_pack 1 = .ok (.istore_n 1, 1) := by decide +kernel
theorem dX8_pack_2 : decode cX8_pack 2 = .ok (.iconst 0, 1) := by decide +kernel
theorem dX8_pack_3 : decode cX8_pack 3 = .ok (.istore_n 2, 1) := by decide +kernel
theorem dX8_pack_4 : decode cX8_pack 4 = .ok (.iload_n 2, 1) := by decide +kernel
theorem dX8_pack_5 : decode cX8_pack 5 = .ok (.aload_n 0, 1) := by decide +kernel
theorem dX8_pack_6 : decode cX8_pack 6 = .ok (.getfield 149, 3) := by decide +kernel
theorem dX8_pack_9 : decode cX8_pack 9 = .ok (.if_icmp .ge 30, 3) := by decide +kernel
theorem dX8_pack_12 : decode cX8_pack 12 = .ok (.aload_n 0, 1) := by decide +kernel
theorem dX8_pack_13 : decode cX8_pack 13 = .ok (.getfield 16, 3) := by decide +kernel
theorem dX8_pack_16 : decode cX8_pack 16 = .ok (.iload_n 2, 1) := by decide +kernel
theorem dX8_pack_17 : decode cX8_pack 17 = .ok (.iaload, 1) := by decide +kernel
theorem dX8_pack_18 : decode cX8_pack 18 = .ok (.iload_n 1, 1) := by decide +kernel
theorem dX8_pack_19 : decode cX8_pack 19 = .ok (.if_icmp .le 12, 3) := by decide +kernel
theorem dX8_pack_22 : decode cX8_pack 22 = .ok (.aload_n 0, 1) := by decide +kernel
theorem dX8_pack_23 : decode cX8_pack 23 = .ok (.getfield 16, 3) := by decide +kernel
theorem dX8_pack_26 : decode cX8_pack 26 = .ok (.iload_n 2, 1) := by decide +kernel
theorem dX8_pack_27 : decode cX8_pack 27 = .ok (.iaload, 1) := by decide +kernel
theorem dX8_pack_28 : decode cX8_pack 28 = .ok (.goto 4, 3) := by decide +kernel
theorem dX8_pack_31 : decode cX8_pack 31 = .ok (.iload_n 1, 1) := by decide +kernel
theorem dX8_pack_32 : decode cX8_pack 32 = .ok (.istore_n 1, 1) := by decide +kernel
theorem dX8_pack_33 : decode cX8_pack 33 = .ok (.iinc 2 1, 3) := by decide +kernel
theorem dX8_pack_36 : decode cX8_pack 36 = .ok (.goto (-32), 3) := by decide +kernel
theorem dX8_pack_39 : decode cX8_pack 39 = .ok (.aload_n 0, 1) := by decide +kernel
theorem dX8_pack_40 : decode cX8_pack 40 = .ok (.iconst 0, 1) := by decide +kernel
theorem dX8_pack_41 : decode cX8_pack 41 = .ok (.putfield 152, 3) := by decide +kernel
theorem dX8_pack_44 : decode cX8_pack 44 = .ok (.iload_n 1, 1) := by decide +kernel
theorem dX8_pack_45 : decode cX8_pack 45 = .ok (.aload_n 0, 1) := by decide +kernel
theorem dX8_pack_46 : decode cX8_pack 46 = .ok (.getfield 152, 3) := by decide +kernel
theorem dX8_pack_49 : decode cX8_pack 49 = .ok (.ishr, 1) := by decide +kernel
theorem dX8_pack_50 : decode cX8_pack 50 = .ok (.ifCond .le 16, 3) := by decide +kernel
theorem dX8_pack_53 : decode cX8_pack 53 = .ok (.aload_n 0, 1) := by decide +kernel
theorem dX8_pack_54 : decode cX8_pack 54 = .ok (.dup, 1) := by decide +kernel
theorem dX8_pack_55 : decode cX8_pack 55 = .ok (.getfield 152, 3) := by decide +kernel
theorem dX8_pack_58 : decode cX8_pack 58 = .ok (.iconst 1, 1) := by decide +kernel
theorem dX8_pack_59 : decode cX8_pack 59 = .ok (.iadd, 1) := by decide +kernel
theorem dX8_pack_60 : decode cX8_pack 60 = .ok (.putfield 152, 3) := by decide +kernel
theorem dX8_pack_63 : decode cX8_pack 63 = .ok (.goto (-19), 3) := by decide +kernel
theorem dX8_pack_66 : decode cX8_pack 66 = .ok (.iconst 0, 1) := by decide +kernel
theorem dX8_pack_67 : decode cX8_pack 67 = .ok (.istore_n 2, 1) := by decide +kernel
theorem dX8_pack_68 : decode cX8_pack 68 = .ok (.iload_n 2, 1) := by decide +kernel
theorem dX8_pack_69 : decode cX8_pack 69 = .ok (.bipush 20, 2) := by decide +kernel
theorem dX8_pack_71 : decode cX8_pack 71 = .ok (.if_icmp .ge 16, 3) := by decide +kernel
theorem dX8_pack_74 : decode cX8_pack 74 = .ok (.aload_n 0, 1) := by decide +kernel
theorem dX8_pack_75 : decode cX8_pack 75 = .ok (.getfield 34, 3) := by decide +kernel
theorem dX8_pack_78 : decode cX8_pack 78 = .ok (.iload_n 2, 1) := by decide +kernel
theorem dX8_pack_79 : decode cX8_pack 79 = .ok (.lconst 0, 1) := by decide +kernel
theorem dX8_pack_80 : decode cX8_pack 80 = .ok (.lastore, 1) := by decide +kernel
theorem dX8_pack_81 : decode cX8_pack 81 = .ok (.iinc 2 1, 3) := by decide +kernel
theorem dX8_pack_84 : decode cX8_pack 84 = .ok (.goto (-16), 3) := by decide +kernel
theorem dX8_pack_87 : decode cX8_pack 87 = .ok (.iconst 0, 1) := by decide +kernel
theorem dX8_pack_88 : decode cX8_pack 88 = .ok (.istore_n 2, 1) := by decide +kernel
theorem dX8_pack_89 : decode cX8_pack 89 = .ok (.iload_n 2, 1) := by decide +kernel
theorem dX8_pack_90 : decode cX8_pack 90 = .ok (.aload_n 0, 1) := by decide +kernel
theorem dX8_pack_91 : decode cX8_pack 91 = .ok (.getfield 149, 3) := by decide +kernel
theorem dX8_pack_94 : decode cX8_pack 94 = .ok (.aload_n 0, 1) := by decide +kernel
theorem dX8_pack_95 : decode cX8_pack 95 = .ok (.getfield 152, 3) := by decide +kernel
theorem dX8_pack_98 : decode cX8_pack 98 = .ok (.imul, 1) := by decide +kernel
theorem dX8_pack_99 : decode cX8_pack 99 = .ok (.if_icmp .ge 49, 3) := by decide +kernel
theorem dX8_pack_102 : decode cX8_pack 102 = .ok (.aload_n 0, 1) := by decide +kernel
theorem dX8_pack_103 : decode cX8_pack 103 = .ok (.getfield 16, 3) := by decide +kernel
theorem dX8_pack_106 : decode cX8_pack 106 = .ok (.iload_n 2, 1) := by decide +kernel
theorem dX8_pack_107 : decode cX8_pack 107 = .ok (.aload_n 0, 1) := by decide +kernel
theorem dX8_pack_108 : decode cX8_pack 108 = .ok (.getfield 152, 3) := by decide +kernel
theorem dX8_pack_111 : decode cX8_pack 111 = .ok (.idiv, 1) := by decide +kernel
theorem dX8_pack_112 : decode cX8_pack 112 = .ok (.iaload, 1) := by decide +kernel
theorem dX8_pack_113 : decode cX8_pack 113 = .ok (.iload_n 2, 1) := by decide +kernel
theorem dX8_pack_114 : decode cX8_pack 114 = .ok (.aload_n 0, 1) := by decide +kernel
theorem dX8_pack_115 : decode cX8_pack 115 = .ok (.getfield 152, 3) := by decide +kernel
theorem dX8_pack_118 : decode cX8_pack 118 = .ok (.irem, 1) := by decide +kernel
theorem dX8_pack_119 : decode cX8_pack 119 = .ok (.ishr, 1) := by decide +kernel
theorem dX8_pack_120 : decode cX8_pack 120 = .ok (.iconst 1, 1) := by decide +kernel
theorem dX8_pack_121 : decode cX8_pack 121 = .ok (.iand, 1) := by decide +kernel
theorem dX8_pack_122 : decode cX8_pack 122 = .ok (.i2l, 1) := by decide +kernel
theorem dX8_pack_123 : decode cX8_pack 123 = .ok (.lstore_n 3, 1) := by decide +kernel
theorem dX8_pack_124 : decode cX8_pack 124 = .ok (.aload_n 0, 1) := by decide +kernel
theorem dX8_pack_125 : decode cX8_pack 125 = .ok (.getfield 34, 3) := by decide +kernel
theorem dX8_pack_128 : decode cX8_pack 128 = .ok (.iload_n 2, 1) := by decide +kernel
theorem dX8_pack_129 : decode cX8_pack 129 = .ok (.bipush 64, 2) := by decide +kernel
theorem dX8_pack_131 : decode cX8_pack 131 = .ok (.idiv, 1) := by decide +kernel
theorem dX8_pack_132 : decode cX8_pack 132 = .ok (.dup2, 1) := by decide +kernel
theorem dX8_pack_133 : decode cX8_pack 133 = .ok (.laload, 1) := by decide +kernel
theorem dX8_pack_134 : decode cX8_pack 134 = .ok (.lload_n 3, 1) := by decide +kernel
theorem dX8_pack_135 : decode cX8_pack 135 = .ok (.iload_n 2, 1) := by decide +kernel
theorem dX8_pack_136 : decode cX8_pack 136 = .ok (.bipush 64, 2) := by decide +kernel
theorem dX8_pack_138 : decode cX8_pack 138 = .ok (.irem, 1) := by decide +kernel
theorem dX8_pack_139 : decode cX8_pack 139 = .ok (.lshl, 1) := by decide +kernel
theorem dX8_pack_140 : decode cX8_pack 140 = .ok (.lor, 1) := by decide +kernel
theorem dX8_pack_141 : decode cX8_pack 141 = .ok (.lastore, 1) := by decide +kernel
theorem dX8_pack_142 : decode cX8_pack 142 = .ok (.iinc 2 1, 3) := by decide +kernel
theorem dX8_pack_145 : decode cX8_pack 145 = .ok (.goto (-56), 3) := by decide +kernel
theorem dX8_pack_148 : decode cX8_pack 148 = .ok (.return_, 1) := by decide +kernel
set_option maxRecDepth 20000 in
theorem ggX8_build_X8_in : GoodIn wsX8_build wsX8_in := goodIn_r _ [17] (by decide +kernel) (by decide +kernel)
set_option maxRecDepth 20000 in
theorem gX8_build_X8_in : GoodIn wsX8_build (va_wsS RX8 107 yX8_in wsX8_in) := goodIn_app (goodIn_of _ (by decide +kernel)) ggX8_build_X8_in
set_option maxRecDepth 20000 in
theorem ggX8_build_X8_fails : GoodIn wsX8_build wsX8_fails := goodIn_r _ [21, 1, 102, 103, 104, 105, 106, 107, 108, 109, 110, 111, 112, 113, 114, 115, 116, 117, 118, 119, 120, 121] (by decide +kernel) (by decide +kernel)
set_option maxRecDepth 20000 in
theorem gX8_build_X8_fails : GoodIn wsX8_build (wsV RX8 111 RX8 yX8_fails wsX8_fails) := goodIn_app (goodIn_of _ (by decide +kernel)) ggX8_build_X8_fails
set_option maxRecDepth 20000 in
theorem ggX8_build_X8_displaces : GoodIn wsX8_build wsX8_displaces := goodIn_r _ [25, 12, 10, 26, 27, 28, 16, 29, 3, 30, 31, 32, 33, 34, 35, 36, 37, 38, 39, 40, 41, 42, 43, 44, 45, 46, 47, 48, 49, 50, 51, 52, 53, 54, 55, 56, 57, 58, 59, 60, 61, 62, 63, 64, 65, 66, 67, 68, 69, 70, 71, 72, 73, 74, 75, 76, 102, 103, 104, 105, 106, 107, 108, 109, 110, 111, 112, 113, 114, 115, 116, 117, 118, 119, 120, 121] (by decide +kernel) (by decide +kernel)
set_option maxRecDepth 20000 in
theorem gX8_build_X8_displaces : GoodIn wsX8_build (wsV RX8 155 RX8 yX8_displaces wsX8_displaces) := goodIn_app (goodIn_of _ (by decide +kernel)) ggX8_build_X8_displaces
set_option maxRecDepth 20000 in
theorem ggX8_build_X8_hasNoCircle : GoodIn wsX8_build wsX8_hasNoCircle := goodIn_r _ [80, 3, 81, 82, 30, 32, 33, 16, 34, 35, 36, 37, 38, 39, 40, 41, 42, 43, 44, 45, 46, 47, 48, 49, 50, 51, 52, 53, 54, 55, 56, 57, 58, 59, 60, 61, 62, 83, 84, 85, 86, 102, 103, 104, 105, 106, 107, 108, 109, 110, 111, 112, 113, 114, 115, 116, 117, 118, 119, 120, 121] (by decide +kernel) (by decide +kernel)
set_option maxRecDepth 20000 in
theorem gX8_build_X8_hasNoCircle : GoodIn wsX8_build (wsV RX8 159 RX8 yX8_hasNoCircle wsX8_hasNoCircle) := goodIn_app (goodIn_of _ (by decide +kernel)) ggX8_build_X8_hasNoCircle
set_option maxRecDepth 20000 in
theorem ggX8_build_X8_gather : GoodIn wsX8_build wsX8_gather := goodIn_r _ [29, 3, 30, 31, 32, 33, 16, 34, 35, 36, 37, 38, 39, 40, 41, 42, 43, 44, 45, 46, 47, 48, 49, 50, 51, 52, 53, 54, 55, 56, 57, 58, 59, 60, 61, 62, 102, 103, 104, 105, 106, 107, 108, 109, 110, 111, 112, 113, 114, 115, 116, 117, 118, 119, 120, 121] (by decide +kernel) (by decide +kernel)
set_option maxRecDepth 20000 in
theorem gX8_build_X8_gather : GoodIn wsX8_build (wsV RX8 137 RX8 yX8_gather wsX8_gather) := goodIn_app (goodIn_of _ (by decide +kernel)) ggX8_build_X8_gather
set_option maxRecDepth 20000 in
theorem ggX8_build_X8_print : GoodIn wsX8_build wsX8_print := goodIn_r _ [90, 4, 6, 32, 33, 16, 34, 35, 36, 37, 38, 39, 40, 41, 42, 43, 44, 45, 46, 47, 48, 49, 50, 51, 52, 53, 54, 55, 56, 57, 58, 59, 60, 61, 62, 102, 103, 104, 105, 106, 107, 108, 109, 110, 111, 112, 113, 114, 115, 116, 117, 118, 119, 120, 121] (by decide +kernel) (by decide +kernel)
set_option maxRecDepth 20000 in
theorem gX8_build_X8_print : GoodIn wsX8_build (wsV RX8 171 RX8 yX8_print wsX8_print) := goodIn_app (goodIn_of _ (by decide +kernel)) ggX8_build_X8_print
set_option maxRecDepth 20000 in
theorem ggX8_build_X8_layValues : GoodIn wsX8_build wsX8_layValues := goodIn_r _ [94, 3, 95, 82, 83, 84, 85, 16, 86, 81, 102, 103, 104, 105, 106, 107, 108, 109, 110, 111, 112, 113, 114, 115, 116, 117, 118, 119, 120, 121] (by decide +kernel) (by decide +kernel)
set_option maxRecDepth 20000 in
theorem gX8_build_X8_layValues : GoodIn wsX8_build (wsV RX8 174 RX8 yX8_layValues wsX8_layValues) := goodIn_app (goodIn_of _ (by decide +kernel)) ggX8_build_X8_layValues
set_option maxRecDepth 20000 in
theorem ggX8_build_X8_pack : GoodIn wsX8_build wsX8_pack := goodIn_r _ [99, 7, 9, 100, 101, 102, 103, 104, 105, 106, 107, 108, 109, 110, 111, 112, 113, 114, 115, 116, 117, 118, 119, 120, 121] (by decide +kernel) (by decide +kernel)
set_option maxRecDepth 20000 in
theorem gX8_build_X8_pack : GoodIn wsX8_build (wsV RX8 177 RX8 yX8_pack wsX8_pack) := goodIn_app (goodIn_of _ (by decide +kernel)) ggX8_build_X8_pack
theorem dX8_build_0 : decode cX8_build 0 = .ok (.aload_n 0, 1) := by decide +kernel
theorem dX8_build_1 : decode cX8_build 1 = .ok (.iconst 0, 1) := by decide +kernel
theorem dX8_build_2 : decode cX8_build 2 = .ok (.putfield 47, 3) := by decide +kernel
theorem dX8_build_5 : decode cX8_build 5 = .ok (.iload_n 1, 1) := by decide +kernel
theorem dX8_build_6 : decode cX8_build 6 = .ok (.iconst 1, 1) := by decide +kernel
theorem dX8_build_7 : decode cX8_build 7 = .ok (.bipush 6, 2) := by decide +kernel
theorem dX8_build_9 : decode cX8_build 9 = .ok (.invokestatic 107, 3) := by decide +kernel
theorem dX8_build_12 : decode cX8_build 12 = .ok (.ifCond .eq 13, 3) := by decide +kernel
theorem dX8_build_15 : decode cX8_build 15 = .ok (.iload_n 2, 1) := by decide +kernel
theorem dX8_build_16 : decode cX8_build 16 = .ok (.iconst 1, 1) := by decide +kernel
theorem dX8_build_17 : decode cX8_build 17 = .ok (.bipush 12, 2) := by decide +kernel
theorem dX8_build_19 : decode cX8_build 19 = .ok (.invokestatic 107, 3) := by decide +kernel
theorem dX8_build_22 : decode cX8_build 22 = .ok (.ifCond .ne 9, 3) := by decide +kernel
theorem dX8_build_25 : decode cX8_build 25 = .ok (.aload_n 0, 1) := by decide +kernel
theorem dX8_build_26 : decode cX8_build 26 = .ok (.iconst 1, 1) := by decide +kernel
theorem dX8_build_27 : decode cX8_build 27 = .ok (.invokevirtual 111, 3) := by decide +kernel
theorem dX8_build_30 : decode cX8_build 30 = .ok (.ireturn, 1) := by decide +kernel
theorem dX8_build_31 : decode cX8_build 31 = .ok (.aload_n 0, 1) := by decide +kernel
theorem dX8_build_32 : decode cX8_build 32 = .ok (.getfield 114, 3) := by decide +kernel
theorem dX8_build_35 : decode cX8_build 35 = .ok (.ifCond .ne 10, 3) := by decide +kernel
theorem dX8_build_38 : decode cX8_build 38 = .ok (.aload_n 0, 1) := by decide +kernel
theorem dX8_build_39 : decode cX8_build 39 = .ok (.getfield 99, 3) := by decide +kernel
theorem dX8_build_42 : decode cX8_build 42 = .ok (.ifCond .ne 9, 3) := by decide +kernel
theorem dX8_build_45 : decode cX8_build 45 = .ok (.aload_n 0, 1) := by decide +kernel
theorem dX8_build_46 : decode cX8_build 46 = .ok (.iconst 2, 1) := by decide +kernel
theorem dX8_build_47 : decode cX8_build 47 = .ok (.invokevirtual 111, 3) := by decide +kernel
theorem dX8_build_50 : decode cX8_build 50 = .ok (.ireturn, 1) := by decide +kernel
theorem dX8_build_51 : decode cX8_build 51 = .ok (.aload_n 0, 1) := by decide +kernel
theorem dX8_build_52 : decode cX8_build 52 = .ok (.getfield 99, 3) := by decide +kernel
theorem dX8_build_55 : decode cX8_build 55 = .ok (.iload_n 1, 1) := by decide +kernel
theorem dX8_build_56 : decode cX8_build 56 = .ok (.iadd, 1) := by decide +kernel
theorem dX8_build_57 : decode cX8_build 57 = .ok (.iconst 1, 1) := by decide +kernel
theorem dX8_build_58 : decode cX8_build 58 = .ok (.isub, 1) := by decide +kernel
theorem dX8_build_59 : decode cX8_build 59 = .ok (.iload_n 1, 1) := by decide +kernel
theorem dX8_build_60 : decode cX8_build 60 = .ok (.idiv, 1) := by decide +kernel
theorem dX8_build_61 : decode cX8_build 61 = .ok (.istore_n 3, 1) := by decide +kernel
theorem dX8_build_62 : decode cX8_build 62 = .ok (.iconst 0, 1) := by decide +kernel
theorem dX8_build_63 : decode cX8_build 63 = .ok (.istore 4, 2) := by decide +kernel
theorem dX8_build_65 : decode cX8_build 65 = .ok (.iload 4, 2) := by decide +kernel
theorem dX8_build_67 : decode cX8_build 67 = .ok (.bipush 40, 2) := by decide +kernel
theorem dX8_build_69 : decode cX8_build 69 = .ok (.if_icmp .ge 19, 3) := by decide +kernel
theorem dX8_build_72 : decode cX8_build 72 = .ok (.aload_n 0, 1) := by decide +kernel
theorem dX8_build_73 : decode cX8_build 73 = .ok (.iload 4, 2) := by decide +kernel
theorem dX8_build_75 : decode cX8_build 75 = .ok (.iload_n 3, 1) := by decide +kernel
theorem dX8_build_76 : decode cX8_build 76 = .ok (.invokevirtual 155, 3) := by decide +kernel
theorem dX8_build_79 : decode cX8_build 79 = .ok (.ifCond .ne 9, 3) := by decide +kernel
theorem dX8_build_82 : decode cX8_build 82 = .ok (.iinc 4 1, 3) := by decide +kernel
theorem dX8_build_85 : decode cX8_build 85 = .ok (.goto (-20), 3) := by decide +kernel
theorem dX8_build_88 : decode cX8_build 88 = .ok (.iconst 0, 1) := by decide +kernel
theorem dX8_build_89 : decode cX8_build 89 = .ok (.istore 5, 2) := by decide +kernel
theorem dX8_build_91 : decode cX8_build 91 = .ok (.iload 4, 2) := by decide +kernel
theorem dX8_build_93 : decode cX8_build 93 = .ok (.bipush 40, 2) := by decide +kernel
theorem dX8_build_95 : decode cX8_build 95 = .ok (.if_icmp .ge 26, 3) := by decide +kernel
theorem dX8_build_98 : decode cX8_build 98 = .ok (.iload 5, 2) := by decide +kernel
theorem dX8_build_100 : decode cX8_build 100 = .ok (.sipush 200, 3) := by decide +kernel
theorem dX8_build_103 : decode cX8_build 103 = .ok (.if_icmp .ge 18, 3) := by decide +kernel
theorem dX8_build_106 : decode cX8_build 106 = .ok (.aload_n 0, 1) := by decide +kernel
theorem dX8_build_107 : decode cX8_build 107 = .ok (.iload 5, 2) := by decide +kernel
theorem dX8_build_109 : decode cX8_build 109 = .ok (.invokevirtual 159, 3) := by decide +kernel
theorem dX8_build_112 : decode cX8_build 112 = .ok (.ifCond .ne 9, 3) := by decide +kernel
theorem dX8_build_115 : decode cX8_build 115 = .ok (.iinc 5 1, 3) := by decide +kernel
theorem dX8_build_118 : decode cX8_build 118 = .ok (.goto (-27), 3) := by decide +kernel
theorem dX8_build_121 : decode cX8_build 121 = .ok (.iload 4, 2) := by decide +kernel
theorem dX8_build_123 : decode cX8_build 123 = .ok (.bipush 40, 2) := by decide +kernel
theorem dX8_build_125 : decode cX8_build 125 = .ok (.if_icmp .eq 11, 3) := by decide +kernel
theorem dX8_build_128 : decode cX8_build 128 = .ok (.iload 5, 2) := by decide +kernel
theorem dX8_build_130 : decode cX8_build 130 = .ok (.sipush 200, 3) := by decide +kernel
theorem dX8_build_133 : decode cX8_build 133 = .ok (.if_icmp .ne 9, 3) := by decide +kernel
theorem dX8_build_136 : decode cX8_build 136 = .ok (.aload_n 0, 1) := by decide +kernel
theorem dX8_build_137 : decode cX8_build 137 = .ok (.iconst 2, 1) := by decide +kernel
theorem dX8_build_138 : decode cX8_build 138 = .ok (.invokevirtual 111, 3) := by decide +kernel
theorem dX8_build_141 : decode cX8_build 141 = .ok (.ireturn, 1) := by decide +kernel
theorem dX8_build_142 : decode cX8_build 142 = .ok (.aload_n 0, 1) := by decide +kernel
theorem dX8_build_143 : decode cX8_build 143 = .ok (.iconst 1, 1) := by decide +kernel
theorem dX8_build_144 : decode cX8_build 144 = .ok (.putfield 114, 3) := by decide +kernel
theorem dX8_build_147 : decode cX8_build 147 = .ok (.aload_n 0, 1) := by decide +kernel
theorem dX8_build_148 : decode cX8_build 148 = .ok (.iload 4, 2) := by decide +kernel
theorem dX8_build_150 : decode cX8_build 150 = .ok (.putfield 162, 3) := by decide +kernel
theorem dX8_build_153 : decode cX8_build 153 = .ok (.aload_n 0, 1) := by decide +kernel
theorem dX8_build_154 : decode cX8_build 154 = .ok (.iload 5, 2) := by decide +kernel
theorem dX8_build_156 : decode cX8_build 156 = .ok (.putfield 165, 3) := by decide +kernel
theorem dX8_build_159 : decode cX8_build 159 = .ok (.aload_n 0, 1) := by decide +kernel
theorem dX8_build_160 : decode cX8_build 160 = .ok (.iload_n 2, 1) := by decide +kernel
theorem dX8_build_161 : decode cX8_build 161 = .ok (.putfield 168, 3) := by decide +kernel
theorem dX8_build_164 : decode cX8_build 164 = .ok (.aload_n 0, 1) := by decide +kernel
theorem dX8_build_165 : decode cX8_build 165 = .ok (.iload_n 3, 1) := by decide +kernel
theorem dX8_build_166 : decode cX8_build 166 = .ok (.putfield 149, 3) := by decide +kernel
theorem dX8_build_169 : decode cX8_build 169 = .ok (.iconst 0, 1) := by decide +kernel
theorem dX8_build_170 : decode cX8_build 170 = .ok (.istore 6, 2) := by decide +kernel
theorem dX8_build_172 : decode cX8_build 172 = .ok (.iload 6, 2) := by decide +kernel
theorem dX8_build_174 : decode cX8_build 174 = .ok (.aload_n 0, 1) := by decide +kernel
theorem dX8_build_175 : decode cX8_build 175 = .ok (.getfield 149, 3) := by decide +kernel
theorem dX8_build_178 : decode cX8_build 178 = .ok (.if_icmp .ge 42, 3) := by decide +kernel
theorem dX8_build_181 : decode cX8_build 181 = .ok (.aload_n 0, 1) := by decide +kernel
theorem dX8_build_182 : decode cX8_build 182 = .ok (.getfield 13, 3) := by decide +kernel
theorem dX8_build_185 : decode cX8_build 185 = .ok (.iload 6, 2) := by decide +kernel
theorem dX8_build_187 : decode cX8_build 187 = .ok (.aload_n 0, 1) := by decide +kernel
theorem dX8_build_188 : decode cX8_build 188 = .ok (.iload 6, 2) := by decide +kernel
theorem dX8_build_190 : decode cX8_build 190 = .ok (.iload 4, 2) := by decide +kernel
theorem dX8_build_192 : decode cX8_build 192 = .ok (.aload_n 0, 1) := by decide +kernel
theorem dX8_build_193 : decode cX8_build 193 = .ok (.getfield 149, 3) := by decide +kernel
theorem dX8_build_196 : decode cX8_build 196 = .ok (.invokevirtual 137, 3) := by decide +kernel
theorem dX8_build_199 : decode cX8_build 199 = .ok (.iastore, 1) := by decide +kernel
theorem dX8_build_200 : decode cX8_build 200 = .ok (.aload_n 0, 1) := by decide +kernel
theorem dX8_build_201 : decode cX8_build 201 = .ok (.getfield 16, 3) := by decide +kernel
theorem dX8_build_204 : decode cX8_build 204 = .ok (.iload 6, 2) := by decide +kernel
theorem dX8_build_206 : decode cX8_build 206 = .ok (.aload_n 0, 1) := by decide +kernel
theorem dX8_build_207 : decode cX8_build 207 = .ok (.getfield 28, 3) := by decide +kernel
theorem dX8_build_210 : decode cX8_build 210 = .ok (.iload 6, 2) := by decide +kernel
theorem dX8_build_212 : decode cX8_build 212 = .ok (.iaload, 1) := by decide +kernel
theorem dX8_build_213 : decode cX8_build 213 = .ok (.iastore, 1) := by decide +kernel
theorem dX8_build_214 : decode cX8_build 214 = .ok (.iinc 6 1, 3) := by decide +kernel
theorem dX8_build_217 : decode cX8_build 217 = .ok (.goto (-45), 3) := by decide +kernel
theorem dX8_build_220 : decode cX8_build 220 = .ok (.iconst 0, 1) := by decide +kernel
theorem dX8_build_221 : decode cX8_build 221 = .ok (.istore 6, 2) := by decide +kernel
theorem dX8_build_223 : decode cX8_build 223 = .ok (.iload 6, 2) := by decide +kernel
theorem dX8_build_225 : decode cX8_build 225 = .ok (.aload_n 0, 1) := by decide +kernel
theorem dX8_build_226 : decode cX8_build 226 = .ok (.getfield 99, 3) := by decide +kernel
theorem dX8_build_229 : decode cX8_build 229 = .ok (.if_icmp .ge 41, 3) := by decide +kernel
theorem dX8_build_232 : decode cX8_build 232 = .ok (.aload_n 0, 1) := by decide +kernel
theorem dX8_build_233 : decode cX8_build 233 = .ok (.getfield 19, 3) := by decide +kernel
theorem dX8_build_236 : decode cX8_build 236 = .ok (.iload 6, 2) := by decide +kernel
theorem dX8_build_238 : decode cX8_build 238 = .ok (.aload_n 0, 1) := by decide +kernel
theorem dX8_build_239 : decode cX8_build 239 = .ok (.getfield 31, 3) := by decide +kernel
theorem dX8_build_242 : decode cX8_build 242 = .ok (.iload 6, 2) := by decide +kernel
theorem dX8_build_244 : decode cX8_build 244 = .ok (.iaload, 1) := by decide +kernel
theorem dX8_build_245 : decode cX8_build 245 = .ok (.iastore, 1) := by decide +kernel
theorem dX8_build_246 : decode cX8_build 246 = .ok (.aload_n 0, 1) := by decide +kernel
theorem dX8_build_247 : decode cX8_build 247 = .ok (.getfield 22, 3) := by decide +kernel
theorem dX8_build_250 : decode cX8_build 250 = .ok (.iload 6, 2) := by decide +kernel
theorem dX8_build_252 : decode cX8_build 252 = .ok (.aload_n 0, 1) := by decide +kernel
theorem dX8_build_253 : decode cX8_build 253 = .ok (.aload_n 0, 1) := by decide +kernel
theorem dX8_build_254 : decode cX8_build 254 = .ok (.getfield 19, 3) := by decide +kernel
theorem dX8_build_257 : decode cX8_build 257 = .ok (.iload 6, 2) := by decide +kernel
theorem dX8_build_259 : decode cX8_build 259 = .ok (.iaload, 1) := by decide +kernel
theorem dX8_build_260 : decode cX8_build 260 = .ok (.invokevirtual 171, 3) := by decide +kernel
theorem dX8_build_263 : decode cX8_build 263 = .ok (.iastore, 1) := by decide +kernel
theorem dX8_build_264 : decode cX8_build 264 = .ok (.iinc 6 1, 3) := by decide +kernel
theorem dX8_build_267 : decode cX8_build 267 = .ok (.goto (-44), 3) := by decide +kernel
theorem dX8_build_270 : decode cX8_build 270 = .ok (.aload_n 0, 1) := by decide +kernel
theorem dX8_build_271 : decode cX8_build 271 = .ok (.invokevirtual 174, 3) := by decide +kernel
theorem dX8_build_274 : decode cX8_build 274 = .ok (.aload_n 0, 1) := by decide +kernel
theorem dX8_build_275 : decode cX8_build 275 = .ok (.invokevirtual 177, 3) := by decide +kernel
theorem dX8_build_278 : decode cX8_build 278 = .ok (.aload_n 0, 1) := by decide +kernel
theorem dX8_build_279 : decode cX8_build 279 = .ok (.getfield 162, 3) := by decide +kernel
theorem dX8_build_282 : decode cX8_build 282 = .ok (.ireturn, 1) := by decide +kernel
set_option maxRecDepth 20000 in
theorem ggX8_print_X8_hash : GoodIn wsX8_print wsX8_hash := goodIn_r _ [6, 7, 8, 9, 5, 10, 11, 12, 13, 14, 15, 16, 17, 18, 19, 20, 21, 22, 23, 24, 25, 26, 27, 28, 29, 30, 31, 32, 33, 34] (by decide +kernel) (by decide +kernel)
set_option maxRecDepth 20000 in
theorem gX8_print_X8_hash : GoodIn wsX8_print (va_wsS RX8 126 yX8_hash wsX8_hash) := goodIn_app (goodIn_of _ (by decide +kernel)) ggX8_print_X8_hash
theorem dX8_print_0 : decode cX8_print 0 = .ok (.iconst 3, 1) := by decide +kernel
theorem dX8_print_1 : decode cX8_print 1 = .ok (.iload_n 1, 1) := by decide +kernel
theorem dX8_print_2 : decode cX8_print 2 = .ok (.aload_n 0, 1) := by decide +kernel
theorem dX8_print_3 : decode cX8_print 3 = .ok (.getfield 162, 3) := by decide +kernel
theorem dX8_print_6 : decode cX8_print 6 = .ok (.invokestatic 126, 3) := by decide +kernel
theorem dX8_print_9 : decode cX8_print 9 = .ok (.iconst 1, 1) := by decide +kernel
theorem dX8_print_10 : decode cX8_print 10 = .ok (.aload_n 0, 1) := by decide +kernel
theorem dX8_print_11 : decode cX8_print 11 = .ok (.getfield 168, 3) := by decide +kernel
theorem dX8_print_14 : decode cX8_print 14 = .ok (.ishl, 1) := by decide +kernel
theorem dX8_print_15 : decode cX8_print 15 = .ok (.irem, 1) := by decide +kernel
theorem dX8_print_16 : decode cX8_print 16 = .ok (.ireturn, 1) := by decide +kernel
set_option maxRecDepth 20000 in
theorem ggX8_reopen_X8_fails : GoodIn wsX8_reopen wsX8_fails := goodIn_r _ [7, 1, 8, 9, 10, 11, 12, 13, 14, 15, 16, 17, 18, 19, 20, 21, 22, 23, 24, 25, 26, 27] (by decide +kernel) (by decide +kernel)
set_option maxRecDepth 20000 in
theorem gX8_reopen_X8_fails : GoodIn wsX8_reopen (wsV RX8 111 RX8 yX8_fails wsX8_fails) := goodIn_app (goodIn_of _ (by decide +kernel)) ggX8_reopen_X8_fails
theorem dX8_reopen_0 : decode cX8_reopen 0 = .ok (.aload_n 0, 1) := by decide +kernel
theorem dX8_reopen_1 : decode cX8_reopen 1 = .ok (.iconst 0, 1) := by decide +kernel
theorem dX8_reopen_2 : decode cX8_reopen 2 = .ok (.putfield 47, 3) := by decide +kernel
theorem dX8_reopen_5 : decode cX8_reopen 5 = .ok (.aload_n 0, 1) := by decide +kernel
theorem dX8_reopen_6 : decode cX8_reopen 6 = .ok (.getfield 114, 3) := by decide +kernel
theorem dX8_reopen_9 : decode cX8_reopen 9 = .ok (.ifCond .ne 10, 3) := by decide +kernel
theorem dX8_reopen_12 : decode cX8_reopen 12 = .ok (.aload_n 0, 1) := by decide +kernel
theorem dX8_reopen_13 : decode cX8_reopen 13 = .ok (.iconst 1, 1) := by decide +kernel
theorem dX8_reopen_14 : decode cX8_reopen 14 = .ok (.invokevirtual 111, 3) := by decide +kernel
theorem dX8_reopen_17 : decode cX8_reopen 17 = .ok (.pop, 1) := by decide +kernel
theorem dX8_reopen_18 : decode cX8_reopen 18 = .ok (.return_, 1) := by decide +kernel
theorem dX8_reopen_19 : decode cX8_reopen 19 = .ok (.aload_n 0, 1) := by decide +kernel
theorem dX8_reopen_20 : decode cX8_reopen 20 = .ok (.iconst 0, 1) := by decide +kernel
theorem dX8_reopen_21 : decode cX8_reopen 21 = .ok (.putfield 114, 3) := by decide +kernel
theorem dX8_reopen_24 : decode cX8_reopen 24 = .ok (.return_, 1) := by decide +kernel
theorem dX8_isBuilt_0 : decode cX8_isBuilt 0 = .ok (.aload_n 0, 1) := by decide +kernel
theorem dX8_isBuilt_1 : decode cX8_isBuilt 1 = .ok (.iconst 0, 1) := by decide +kernel
theorem dX8_isBuilt_2 : decode cX8_isBuilt 2 = .ok (.putfield 47, 3) := by decide +kernel
theorem dX8_isBuilt_5 : decode cX8_isBuilt 5 = .ok (.aload_n 0, 1) := by decide +kernel
theorem dX8_isBuilt_6 : decode cX8_isBuilt 6 = .ok (.getfield 114, 3) := by decide +kernel
theorem dX8_isBuilt_9 : decode cX8_isBuilt 9 = .ok (.ireturn, 1) := by decide +kernel
set_option maxRecDepth 20000 in
theorem ggX8_numberOf_X8_hash : GoodIn wsX8_numberOf wsX8_hash := goodIn_r _ [8, 9, 10, 11, 7, 12, 13, 14, 15, 16, 17, 18, 19, 20, 21, 22, 23, 24, 25, 26, 27, 28, 29, 30, 31, 32, 33, 34, 35, 36] (by decide +kernel) (by decide +kernel)
set_option maxRecDepth 20000 in
theorem gX8_numberOf_X8_hash : GoodIn wsX8_numberOf (va_wsS RX8 126 yX8_hash wsX8_hash) := goodIn_app (goodIn_of _ (by decide +kernel)) ggX8_numberOf_X8_hash
set_option maxRecDepth 20000 in
theorem ggX8_numberOf_X8_place : GoodIn wsX8_numberOf wsX8_place := goodIn_r _ [39, 5, 6, 7, 8, 9, 10, 11, 12, 13, 14, 15, 16, 17, 18, 19, 20, 21, 22, 23, 24, 25, 26, 27, 28, 29, 30, 31, 32, 33, 34, 35, 36, 40, 41, 42] (by decide +kernel) (by decide +kernel)
set_option maxRecDepth 20000 in
theorem gX8_numberOf_X8_place : GoodIn wsX8_numberOf (va_wsS RX8 133 yX8_place wsX8_place) := goodIn_app (goodIn_of _ (by decide +kernel)) ggX8_numberOf_X8_place
theorem dX8_numberOf_0 : decode cX8_numberOf 0 = .ok (.iload_n 1, 1) := by decide +kernel
theorem dX8_numberOf_1 : decode cX8_numberOf 1 = .ok (.aload_n 0, 1) := by decide +kernel
theorem dX8_numberOf_2 : decode cX8_numberOf 2 = .ok (.getfield 162, 3) := by decide +kernel
theorem dX8_numberOf_5 : decode cX8_numberOf 5 = .ok (.aload_n 0, 1) := by decide +kernel
theorem dX8_numberOf_6 : decode cX8_numberOf 6 = .ok (.getfield 16, 3) := by decide +kernel
theorem dX8_numberOf_9 : decode cX8_numberOf 9 = .ok (.iconst 0, 1) := by decide +kernel
theorem dX8_numberOf_10 : decode cX8_numberOf 10 = .ok (.iload_n 1, 1) := by decide +kernel
theorem dX8_numberOf_11 : decode cX8_numberOf 11 = .ok (.aload_n 0, 1) := by decide +kernel
theorem dX8_numberOf_12 : decode cX8_numberOf 12 = .ok (.getfield 162, 3) := by decide +kernel
theorem dX8_numberOf_15 : decode cX8_numberOf 15 = .ok (.invokestatic 126, 3) := by decide +kernel
theorem dX8_numberOf_18 : decode cX8_numberOf 18 = .ok (.aload_n 0, 1) := by decide +kernel
theorem dX8_numberOf_19 : decode cX8_numberOf 19 = .ok (.getfield 149, 3) := by decide +kernel
theorem dX8_numberOf_22 : decode cX8_numberOf 22 = .ok (.irem, 1) := by decide +kernel
theorem dX8_numberOf_23 : decode cX8_numberOf 23 = .ok (.iaload, 1) := by decide +kernel
theorem dX8_numberOf_24 : decode cX8_numberOf 24 = .ok (.aload_n 0, 1) := by decide +kernel
theorem dX8_numberOf_25 : decode cX8_numberOf 25 = .ok (.getfield 99, 3) := by decide +kernel
theorem dX8_numberOf_28 : decode cX8_numberOf 28 = .ok (.invokestatic 133, 3) := by decide +kernel
theorem dX8_numberOf_31 : decode cX8_numberOf 31 = .ok (.ireturn, 1) := by decide +kernel
set_option maxRecDepth 20000 in
theorem ggX8_found_X8_numberOf : GoodIn wsX8_found wsX8_numberOf := goodIn_r _ [6, 7, 8, 9, 10, 11, 12, 5, 13, 14, 15, 16, 17, 18, 19, 20, 21, 22, 23, 24, 25, 26, 27, 28, 29, 30, 31, 32, 33, 34, 35, 36, 37, 38, 39, 40, 41, 42, 43, 44, 45, 46, 47, 53, 54, 55, 56, 57, 58, 59, 60, 61, 62, 63, 64, 65, 66, 67, 68, 69, 70, 71, 72] (by decide +kernel) (by decide +kernel)
set_option maxRecDepth 20000 in
theorem gX8_found_X8_numberOf : GoodIn wsX8_found (wsV RX8 180 RX8 yX8_numberOf wsX8_numberOf) := goodIn_app (goodIn_of _ (by decide +kernel)) ggX8_found_X8_numberOf
set_option maxRecDepth 20000 in
theorem ggX8_found_X8_print : GoodIn wsX8_found wsX8_print := goodIn_r _ [51, 7, 52, 11, 12, 5, 13, 14, 15, 16, 17, 18, 19, 20, 21, 22, 23, 24, 25, 26, 27, 28, 29, 30, 31, 32, 33, 34, 35, 36, 37, 38, 39, 40, 41, 53, 54, 55, 56, 57, 58, 59, 60, 61, 62, 63, 64, 65, 66, 67, 68, 69, 70, 71, 72] (by decide +kernel) (by decide +kernel)
set_option maxRecDepth 20000 in
theorem gX8_found_X8_print : GoodIn wsX8_found (wsV RX8 171 RX8 yX8_print wsX8_print) := goodIn_app (goodIn_of _ (by decide +kernel)) ggX8_found_X8_print
