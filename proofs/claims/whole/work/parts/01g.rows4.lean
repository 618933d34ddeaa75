theorem dX8_found_0 : decode cX8_found 0 = .ok (.aload_n 0, 1) := by decide +kernel
theorem dX8_found_1 : decode cX8_found 1 = .ok (.iload_n 1, 1) := by decide +kernel
theorem dX8_found_2 : decode cX8_found 2 = .ok (.invokevirtual 180, 3) := by decide +kernel
theorem dX8_found_5 : decode cX8_found 5 = .ok (.istore_n 2, 1) := by decide +kernel
theorem dX8_found_6 : decode cX8_found 6 = .ok (.aload_n 0, 1) := by decide +kernel
theorem dX8_found_7 : decode cX8_found 7 = .ok (.getfield 22, 3) := by decide +kernel
theorem dX8_found_10 : decode cX8_found 10 = .ok (.iload_n 2, 1) := by decide +kernel
theorem dX8_found_11 : decode cX8_found 11 = .ok (.iaload, 1) := by decide +kernel
theorem dX8_found_12 : decode cX8_found 12 = .ok (.aload_n 0, 1) := by decide +kernel
theorem dX8_found_13 : decode cX8_found 13 = .ok (.iload_n 1, 1) := by decide +kernel
theorem dX8_found_14 : decode cX8_found 14 = .ok (.invokevirtual 171, 3) := by decide +kernel
theorem dX8_found_17 : decode cX8_found 17 = .ok (.if_icmp .ne 7, 3) := by decide +kernel
theorem dX8_found_20 : decode cX8_found 20 = .ok (.iload_n 2, 1) := by decide +kernel
theorem dX8_found_21 : decode cX8_found 21 = .ok (.goto 4, 3) := by decide +kernel
theorem dX8_found_24 : decode cX8_found 24 = .ok (.iconst (-1), 1) := by decide +kernel
theorem dX8_found_25 : decode cX8_found 25 = .ok (.ireturn, 1) := by decide +kernel
set_option maxRecDepth 20000 in
theorem ggX8_number_X8_in : GoodIn wsX8_number wsX8_in := goodIn_r _ [7] (by decide +kernel) (by decide +kernel)
set_option maxRecDepth 20000 in
theorem gX8_number_X8_in : GoodIn wsX8_number (va_wsS RX8 107 yX8_in wsX8_in) := goodIn_app (goodIn_of _ (by decide +kernel)) ggX8_number_X8_in
set_option maxRecDepth 20000 in
theorem ggX8_number_X8_fails : GoodIn wsX8_number wsX8_fails := goodIn_r _ [11, 1, 57, 58, 59, 60, 61, 62, 63, 64, 65, 66, 67, 68, 69, 70, 71, 72, 73, 74, 75, 76] (by decide +kernel) (by decide +kernel)
set_option maxRecDepth 20000 in
theorem gX8_number_X8_fails : GoodIn wsX8_number (wsV RX8 111 RX8 yX8_fails wsX8_fails) := goodIn_app (goodIn_of _ (by decide +kernel)) ggX8_number_X8_fails
set_option maxRecDepth 20000 in
theorem ggX8_number_X8_numberOf : GoodIn wsX8_number wsX8_numberOf := goodIn_r _ [15, 16, 17, 18, 19, 20, 21, 6, 22, 23, 24, 25, 26, 27, 28, 29, 30, 31, 32, 33, 34, 35, 36, 37, 38, 39, 40, 41, 42, 43, 44, 45, 46, 47, 48, 49, 50, 51, 52, 53, 54, 55, 56, 57, 58, 59, 60, 61, 62, 63, 64, 65, 66, 67, 68, 69, 70, 71, 72, 73, 74, 75, 76] (by decide +kernel) (by decide +kernel)
set_option maxRecDepth 20000 in
theorem gX8_number_X8_numberOf : GoodIn wsX8_number (wsV RX8 180 RX8 yX8_numberOf wsX8_numberOf) := goodIn_app (goodIn_of _ (by decide +kernel)) ggX8_number_X8_numberOf
theorem dX8_number_0 : decode cX8_number 0 = .ok (.aload_n 0, 1) := by decide +kernel
theorem dX8_number_1 : decode cX8_number 1 = .ok (.iconst 0, 1) := by decide +kernel
theorem dX8_number_2 : decode cX8_number 2 = .ok (.putfield 47, 3) := by decide +kernel
theorem dX8_number_5 : decode cX8_number 5 = .ok (.iload_n 1, 1) := by decide +kernel
theorem dX8_number_6 : decode cX8_number 6 = .ok (.iconst 0, 1) := by decide +kernel
theorem dX8_number_7 : decode cX8_number 7 = .ok (.ldc 106, 2) := by decide +kernel
theorem dX8_number_9 : decode cX8_number 9 = .ok (.invokestatic 107, 3) := by decide +kernel
theorem dX8_number_12 : decode cX8_number 12 = .ok (.ifCond .ne 9, 3) := by decide +kernel
theorem dX8_number_15 : decode cX8_number 15 = .ok (.aload_n 0, 1) := by decide +kernel
theorem dX8_number_16 : decode cX8_number 16 = .ok (.iconst 1, 1) := by decide +kernel
theorem dX8_number_17 : decode cX8_number 17 = .ok (.invokevirtual 111, 3) := by decide +kernel
theorem dX8_number_20 : decode cX8_number 20 = .ok (.ireturn, 1) := by decide +kernel
theorem dX8_number_21 : decode cX8_number 21 = .ok (.aload_n 0, 1) := by decide +kernel
theorem dX8_number_22 : decode cX8_number 22 = .ok (.getfield 114, 3) := by decide +kernel
theorem dX8_number_25 : decode cX8_number 25 = .ok (.ifCond .eq 11, 3) := by decide +kernel
theorem dX8_number_28 : decode cX8_number 28 = .ok (.aload_n 0, 1) := by decide +kernel
theorem dX8_number_29 : decode cX8_number 29 = .ok (.iload_n 1, 1) := by decide +kernel
theorem dX8_number_30 : decode cX8_number 30 = .ok (.invokevirtual 180, 3) := by decide +kernel
theorem dX8_number_33 : decode cX8_number 33 = .ok (.goto 8, 3) := by decide +kernel
theorem dX8_number_36 : decode cX8_number 36 = .ok (.aload_n 0, 1) := by decide +kernel
theorem dX8_number_37 : decode cX8_number 37 = .ok (.iconst 2, 1) := by decide +kernel
theorem dX8_number_38 : decode cX8_number 38 = .ok (.invokevirtual 111, 3) := by decide +kernel
theorem dX8_number_41 : decode cX8_number 41 = .ok (.ireturn, 1) := by decide +kernel
set_option maxRecDepth 20000 in
theorem ggX8_find_X8_in : GoodIn wsX8_find wsX8_in := goodIn_r _ [7] (by decide +kernel) (by decide +kernel)
set_option maxRecDepth 20000 in
theorem gX8_find_X8_in : GoodIn wsX8_find (va_wsS RX8 107 yX8_in wsX8_in) := goodIn_app (goodIn_of _ (by decide +kernel)) ggX8_find_X8_in
set_option maxRecDepth 20000 in
theorem ggX8_find_X8_fails : GoodIn wsX8_find wsX8_fails := goodIn_r _ [11, 1, 67, 68, 69, 70, 71, 72, 73, 74, 75, 76, 77, 78, 79, 80, 81, 82, 83, 84, 85, 86] (by decide +kernel) (by decide +kernel)
set_option maxRecDepth 20000 in
theorem gX8_find_X8_fails : GoodIn wsX8_find (wsV RX8 111 RX8 yX8_fails wsX8_fails) := goodIn_app (goodIn_of _ (by decide +kernel)) ggX8_find_X8_fails
set_option maxRecDepth 20000 in
theorem ggX8_find_X8_found : GoodIn wsX8_find wsX8_found := goodIn_r _ [15, 16, 17, 18, 19, 6, 20, 21, 22, 23, 24, 25, 26, 27, 28, 29, 30, 31, 32, 33, 34, 35, 36, 37, 38, 39, 40, 41, 42, 43, 44, 45, 46, 47, 48, 49, 50, 51, 52, 53, 54, 55, 56, 57, 58, 59, 60, 61, 62, 63, 64, 65, 66, 67, 68, 69, 70, 71, 72, 73, 74, 75, 76, 77, 78, 79, 80, 81, 82, 83, 84, 85, 86] (by decide +kernel) (by decide +kernel)
set_option maxRecDepth 20000 in
theorem gX8_find_X8_found : GoodIn wsX8_find (wsV RX8 183 RX8 yX8_found wsX8_found) := goodIn_app (goodIn_of _ (by decide +kernel)) ggX8_find_X8_found
theorem dX8_find_0 : decode cX8_find 0 = .ok (.aload_n 0, 1) := by decide +kernel
theorem dX8_find_1 : decode cX8_find 1 = .ok (.iconst 0, 1) := by decide +kernel
theorem dX8_find_2 : decode cX8_find 2 = .ok (.putfield 47, 3) := by decide +kernel
theorem dX8_find_5 : decode cX8_find 5 = .ok (.iload_n 1, 1) := by decide +kernel
theorem dX8_find_6 : decode cX8_find 6 = .ok (.iconst 0, 1) := by decide +kernel
theorem dX8_find_7 : decode cX8_find 7 = .ok (.ldc 106, 2) := by decide +kernel
theorem dX8_find_9 : decode cX8_find 9 = .ok (.invokestatic 107, 3) := by decide +kernel
theorem dX8_find_12 : decode cX8_find 12 = .ok (.ifCond .ne 9, 3) := by decide +kernel
theorem dX8_find_15 : decode cX8_find 15 = .ok (.aload_n 0, 1) := by decide +kernel
theorem dX8_find_16 : decode cX8_find 16 = .ok (.iconst 1, 1) := by decide +kernel
theorem dX8_find_17 : decode cX8_find 17 = .ok (.invokevirtual 111, 3) := by decide +kernel
theorem dX8_find_20 : decode cX8_find 20 = .ok (.ireturn, 1) := by decide +kernel
theorem dX8_find_21 : decode cX8_find 21 = .ok (.aload_n 0, 1) := by decide +kernel
theorem dX8_find_22 : decode cX8_find 22 = .ok (.getfield 114, 3) := by decide +kernel
theorem dX8_find_25 : decode cX8_find 25 = .ok (.ifCond .eq 11, 3) := by decide +kernel
theorem dX8_find_28 : decode cX8_find 28 = .ok (.aload_n 0, 1) := by decide +kernel
theorem dX8_find_29 : decode cX8_find 29 = .ok (.iload_n 1, 1) := by decide +kernel
theorem dX8_find_30 : decode cX8_find 30 = .ok (.invokevirtual 183, 3) := by decide +kernel
theorem dX8_find_33 : decode cX8_find 33 = .ok (.goto 8, 3) := by decide +kernel
theorem dX8_find_36 : decode cX8_find 36 = .ok (.aload_n 0, 1) := by decide +kernel
theorem dX8_find_37 : decode cX8_find 37 = .ok (.iconst 2, 1) := by decide +kernel
theorem dX8_find_38 : decode cX8_find 38 = .ok (.invokevirtual 111, 3) := by decide +kernel
theorem dX8_find_41 : decode cX8_find 41 = .ok (.ireturn, 1) := by decide +kernel
set_option maxRecDepth 20000 in
theorem ggX8_strangers_X8_in : GoodIn wsX8_strangers wsX8_in := goodIn_r _ [7] (by decide +kernel) (by decide +kernel)
set_option maxRecDepth 20000 in
theorem gX8_strangers_X8_in : GoodIn wsX8_strangers (va_wsS RX8 107 yX8_in wsX8_in) := goodIn_app (goodIn_of _ (by decide +kernel)) ggX8_strangers_X8_in
set_option maxRecDepth 20000 in
theorem ggX8_strangers_X8_fails : GoodIn wsX8_strangers wsX8_fails := goodIn_r _ [11, 1, 76, 77, 78, 79, 80, 81, 82, 83, 84, 85, 86, 87, 88, 89, 90, 91, 92, 93, 94, 95] (by decide +kernel) (by decide +kernel)
set_option maxRecDepth 20000 in
theorem gX8_strangers_X8_fails : GoodIn wsX8_strangers (wsV RX8 111 RX8 yX8_fails wsX8_fails) := goodIn_app (goodIn_of _ (by decide +kernel)) ggX8_strangers_X8_fails
set_option maxRecDepth 20000 in
theorem ggX8_strangers_X8_found : GoodIn wsX8_strangers wsX8_found := goodIn_r _ [15, 16, 17, 18, 19, 6, 20, 21, 22, 23, 24, 25, 26, 27, 28, 29, 30, 31, 32, 33, 34, 35, 36, 37, 38, 39, 40, 41, 42, 43, 44, 45, 46, 47, 48, 49, 50, 51, 52, 53, 54, 55, 56, 57, 58, 59, 60, 61, 62, 63, 64, 65, 66, 76, 77, 78, 79, 80, 81, 82, 83, 84, 85, 86, 87, 88, 89, 90, 91, 92, 93, 94, 95] (by decide +kernel) (by decide +kernel)
set_option maxRecDepth 20000 in
theorem gX8_strangers_X8_found : GoodIn wsX8_strangers (wsV RX8 183 RX8 yX8_found wsX8_found) := goodIn_app (goodIn_of _ (by decide +kernel)) ggX8_strangers_X8_found
set_option maxRecDepth 20000 in
theorem ggX8_strangers_X8_is : GoodIn wsX8_strangers wsX8_is := goodIn_r _ [70, 24, 71, 72, 73, 74, 6, 75, 76, 77, 78, 79, 80, 81, 82, 83, 84, 85, 86, 87, 88, 89, 90, 91, 92, 93, 94, 95] (by decide +kernel) (by decide +kernel)
set_option maxRecDepth 20000 in
theorem gX8_strangers_X8_is : GoodIn wsX8_strangers (wsV RX8 118 RX8 yX8_is wsX8_is) := goodIn_app (goodIn_of _ (by decide +kernel)) ggX8_strangers_X8_is
theorem dX8_strangers_0 : decode cX8_strangers 0 = .ok (.aload_n 0, 1) := by decide +kernel
theorem dX8_strangers_1 : decode cX8_strangers 1 = .ok (.iconst 0, 1) := by decide +kernel
theorem dX8_strangers_2 : decode cX8_strangers 2 = .ok (.putfield 47, 3) := by decide +kernel
theorem dX8_strangers_5 : decode cX8_strangers 5 = .ok (.iload_n 1, 1) := by decide +kernel
theorem dX8_strangers_6 : decode cX8_strangers 6 = .ok (.iconst 0, 1) := by decide +kernel
theorem dX8_strangers_7 : decode cX8_strangers 7 = .ok (.ldc 106, 2) := by decide +kernel
theorem dX8_strangers_9 : decode cX8_strangers 9 = .ok (.invokestatic 107, 3) := by decide +kernel
theorem dX8_strangers_12 : decode cX8_strangers 12 = .ok (.ifCond .eq 22, 3) := by decide +kernel
theorem dX8_strangers_15 : decode cX8_strangers 15 = .ok (.iload_n 2, 1) := by decide +kernel
theorem dX8_strangers_16 : decode cX8_strangers 16 = .ok (.iload_n 1, 1) := by decide +kernel
theorem dX8_strangers_17 : decode cX8_strangers 17 = .ok (.ldc 106, 2) := by decide +kernel
theorem dX8_strangers_19 : decode cX8_strangers 19 = .ok (.invokestatic 107, 3) := by decide +kernel
theorem dX8_strangers_22 : decode cX8_strangers 22 = .ok (.ifCond .eq 12, 3) := by decide +kernel
theorem dX8_strangers_25 : decode cX8_strangers 25 = .ok (.iload_n 2, 1) := by decide +kernel
theorem dX8_strangers_26 : decode cX8_strangers 26 = .ok (.iload_n 1, 1) := by decide +kernel
theorem dX8_strangers_27 : decode cX8_strangers 27 = .ok (.isub, 1) := by decide +kernel
theorem dX8_strangers_28 : decode cX8_strangers 28 = .ok (.sipush 4999, 3) := by decide +kernel
theorem dX8_strangers_31 : decode cX8_strangers 31 = .ok (.if_icmp .le 9, 3) := by decide +kernel
theorem dX8_strangers_34 : decode cX8_strangers 34 = .ok (.aload_n 0, 1) := by decide +kernel
theorem dX8_strangers_35 : decode cX8_strangers 35 = .ok (.iconst 1, 1) := by decide +kernel
theorem dX8_strangers_36 : decode cX8_strangers 36 = .ok (.invokevirtual 111, 3) := by decide +kernel
theorem dX8_strangers_39 : decode cX8_strangers 39 = .ok (.ireturn, 1) := by decide +kernel
theorem dX8_strangers_40 : decode cX8_strangers 40 = .ok (.aload_n 0, 1) := by decide +kernel
theorem dX8_strangers_41 : decode cX8_strangers 41 = .ok (.getfield 114, 3) := by decide +kernel
theorem dX8_strangers_44 : decode cX8_strangers 44 = .ok (.ifCond .ne 9, 3) := by decide +kernel
theorem dX8_strangers_47 : decode cX8_strangers 47 = .ok (.aload_n 0, 1) := by decide +kernel
theorem dX8_strangers_48 : decode cX8_strangers 48 = .ok (.iconst 2, 1) := by decide +kernel
theorem dX8_strangers_49 : decode cX8_strangers 49 = .ok (.invokevirtual 111, 3) := by decide +kernel
theorem dX8_strangers_52 : decode cX8_strangers 52 = .ok (.ireturn, 1) := by decide +kernel
theorem dX8_strangers_53 : decode cX8_strangers 53 = .ok (.iconst 0, 1) := by decide +kernel
theorem dX8_strangers_54 : decode cX8_strangers 54 = .ok (.istore_n 3, 1) := by decide +kernel
theorem dX8_strangers_55 : decode cX8_strangers 55 = .ok (.iload_n 1, 1) := by decide +kernel
theorem dX8_strangers_56 : decode cX8_strangers 56 = .ok (.istore 4, 2) := by decide +kernel
theorem dX8_strangers_58 : decode cX8_strangers 58 = .ok (.iload 4, 2) := by decide +kernel
theorem dX8_strangers_60 : decode cX8_strangers 60 = .ok (.iload_n 2, 1) := by decide +kernel
theorem dX8_strangers_61 : decode cX8_strangers 61 = .ok (.if_icmp .gt 36, 3) := by decide +kernel
theorem dX8_strangers_64 : decode cX8_strangers 64 = .ok (.iload_n 3, 1) := by decide +kernel
theorem dX8_strangers_65 : decode cX8_strangers 65 = .ok (.aload_n 0, 1) := by decide +kernel
theorem dX8_strangers_66 : decode cX8_strangers 66 = .ok (.iload 4, 2) := by decide +kernel
theorem dX8_strangers_68 : decode cX8_strangers 68 = .ok (.invokevirtual 183, 3) := by decide +kernel
theorem dX8_strangers_71 : decode cX8_strangers 71 = .ok (.iconst (-1), 1) := by decide +kernel
theorem dX8_strangers_72 : decode cX8_strangers 72 = .ok (.if_icmp .eq 16, 3) := by decide +kernel
theorem dX8_strangers_75 : decode cX8_strangers 75 = .ok (.aload_n 0, 1) := by decide +kernel
theorem dX8_strangers_76 : decode cX8_strangers 76 = .ok (.iload 4, 2) := by decide +kernel
theorem dX8_strangers_78 : decode cX8_strangers 78 = .ok (.invokevirtual 118, 3) := by decide +kernel
theorem dX8_strangers_81 : decode cX8_strangers 81 = .ok (.ifCond .ne 7, 3) := by decide +kernel
theorem dX8_strangers_84 : decode cX8_strangers 84 = .ok (.iconst 1, 1) := by decide +kernel
theorem dX8_strangers_85 : decode cX8_strangers 85 = .ok (.goto 4, 3) := by decide +kernel
theorem dX8_strangers_88 : decode cX8_strangers 88 = .ok (.iconst 0, 1) := by decide +kernel
theorem dX8_strangers_89 : decode cX8_strangers 89 = .ok (.iadd, 1) := by decide +kernel
theorem dX8_strangers_90 : decode cX8_strangers 90 = .ok (.istore_n 3, 1) := by decide +kernel
theorem dX8_strangers_91 : decode cX8_strangers 91 = .ok (.iinc 4 1, 3) := by decide +kernel
theorem dX8_strangers_94 : decode cX8_strangers 94 = .ok (.goto (-36), 3) := by decide +kernel
theorem dX8_strangers_97 : decode cX8_strangers 97 = .ok (.iload_n 3, 1) := by decide +kernel
theorem dX8_strangers_98 : decode cX8_strangers 98 = .ok (.ireturn, 1) := by decide +kernel
set_option maxRecDepth 20000 in
theorem ggX8_told_X8_fails : GoodIn wsX8_told wsX8_fails := goodIn_r _ [6, 7, 8, 9, 10, 11, 12, 13, 14, 15, 16, 17, 18, 19, 20, 21, 22, 23, 24, 25, 26, 27] (by decide +kernel) (by decide +kernel)
set_option maxRecDepth 20000 in
theorem gX8_told_X8_fails : GoodIn wsX8_told (wsV RX8 111 RX8 yX8_fails wsX8_fails) := goodIn_app (goodIn_of _ (by decide +kernel)) ggX8_told_X8_fails
theorem dX8_told_0 : decode cX8_told 0 = .ok (.aload_n 0, 1) := by decide +kernel
theorem dX8_told_1 : decode cX8_told 1 = .ok (.getfield 114, 3) := by decide +kernel
theorem dX8_told_4 : decode cX8_told 4 = .ok (.ifCond .ne 9, 3) := by decide +kernel
theorem dX8_told_7 : decode cX8_told 7 = .ok (.aload_n 0, 1) := by decide +kernel
theorem dX8_told_8 : decode cX8_told 8 = .ok (.iconst 1, 1) := by decide +kernel
theorem dX8_told_9 : decode cX8_told 9 = .ok (.invokevirtual 111, 3) := by decide +kernel
theorem dX8_told_12 : decode cX8_told 12 = .ok (.ireturn, 1) := by decide +kernel
theorem dX8_told_13 : decode cX8_told 13 = .ok (.iload_n 1, 1) := by decide +kernel
theorem dX8_told_14 : decode cX8_told 14 = .ok (.ifCond .eq 7, 3) := by decide +kernel
theorem dX8_told_17 : decode cX8_told 17 = .ok (.iload_n 2, 1) := by decide +kernel
theorem dX8_told_18 : decode cX8_told 18 = .ok (.goto 8, 3) := by decide +kernel
theorem dX8_told_21 : decode cX8_told 21 = .ok (.aload_n 0, 1) := by decide +kernel
theorem dX8_told_22 : decode cX8_told 22 = .ok (.iconst 2, 1) := by decide +kernel
theorem dX8_told_23 : decode cX8_told 23 = .ok (.invokevirtual 111, 3) := by decide +kernel
theorem dX8_told_26 : decode cX8_told 26 = .ok (.ireturn, 1) := by decide +kernel
set_option maxRecDepth 20000 in
theorem ggX8_keyOf_X8_in : GoodIn wsX8_keyOf wsX8_in := goodIn_r _ [7] (by decide +kernel) (by decide +kernel)
set_option maxRecDepth 20000 in
theorem gX8_keyOf_X8_in : GoodIn wsX8_keyOf (va_wsS RX8 107 yX8_in wsX8_in) := goodIn_app (goodIn_of _ (by decide +kernel)) ggX8_keyOf_X8_in
set_option maxRecDepth 20000 in
theorem ggX8_keyOf_X8_told : GoodIn wsX8_keyOf wsX8_told := goodIn_r _ [11, 12, 13, 14, 15, 6, 16, 1, 17, 18, 19, 20, 21, 22, 23, 24, 25, 26, 27, 28, 29, 30, 31, 32, 33, 34, 35, 36] (by decide +kernel) (by decide +kernel)
set_option maxRecDepth 20000 in
theorem gX8_keyOf_X8_told : GoodIn wsX8_keyOf (wsV RX8 186 RX8 yX8_told wsX8_told) := goodIn_app (goodIn_of _ (by decide +kernel)) ggX8_keyOf_X8_told
theorem dX8_keyOf_0 : decode cX8_keyOf 0 = .ok (.aload_n 0, 1) := by decide +kernel
theorem dX8_keyOf_1 : decode cX8_keyOf 1 = .ok (.iconst 0, 1) := by decide +kernel
theorem dX8_keyOf_2 : decode cX8_keyOf 2 = .ok (.putfield 47, 3) := by decide +kernel
theorem dX8_keyOf_5 : decode cX8_keyOf 5 = .ok (.iload_n 1, 1) := by decide +kernel
theorem dX8_keyOf_6 : decode cX8_keyOf 6 = .ok (.iconst 0, 1) := by decide +kernel
theorem dX8_keyOf_7 : decode cX8_keyOf 7 = .ok (.aload_n 0, 1) := by decide +kernel
theorem dX8_keyOf_8 : decode cX8_keyOf 8 = .ok (.getfield 99, 3) := by decide +kernel
theorem dX8_keyOf_11 : decode cX8_keyOf 11 = .ok (.iconst 1, 1) := by decide +kernel
theorem dX8_keyOf_12 : decode cX8_keyOf 12 = .ok (.isub, 1) := by decide +kernel
theorem dX8_keyOf_13 : decode cX8_keyOf 13 = .ok (.invokestatic 107, 3) := by decide +kernel
theorem dX8_keyOf_16 : decode cX8_keyOf 16 = .ok (.istore_n 2, 1) := by decide +kernel
theorem dX8_keyOf_17 : decode cX8_keyOf 17 = .ok (.aload_n 0, 1) := by decide +kernel
theorem dX8_keyOf_18 : decode cX8_keyOf 18 = .ok (.iload_n 2, 1) := by decide +kernel
theorem dX8_keyOf_19 : decode cX8_keyOf 19 = .ok (.iload_n 2, 1) := by decide +kernel
theorem dX8_keyOf_20 : decode cX8_keyOf 20 = .ok (.ifCond .eq 12, 3) := by decide +kernel
theorem dX8_keyOf_23 : decode cX8_keyOf 23 = .ok (.aload_n 0, 1) := by decide +kernel
theorem dX8_keyOf_24 : decode cX8_keyOf 24 = .ok (.getfield 19, 3) := by decide +kernel
theorem dX8_keyOf_27 : decode cX8_keyOf 27 = .ok (.iload_n 1, 1) := by decide +kernel
theorem dX8_keyOf_28 : decode cX8_keyOf 28 = .ok (.iaload, 1) := by decide +kernel
theorem dX8_keyOf_29 : decode cX8_keyOf 29 = .ok (.goto 4, 3) := by decide +kernel
theorem dX8_keyOf_32 : decode cX8_keyOf 32 = .ok (.iconst 0, 1) := by decide +kernel
theorem dX8_keyOf_33 : decode cX8_keyOf 33 = .ok (.invokevirtual 186, 3) := by decide +kernel
theorem dX8_keyOf_36 : decode cX8_keyOf 36 = .ok (.ireturn, 1) := by decide +kernel
set_option maxRecDepth 20000 in
theorem ggX8_fingerprint_X8_in : GoodIn wsX8_fingerprint wsX8_in := goodIn_r _ [7] (by decide +kernel) (by decide +kernel)
set_option maxRecDepth 20000 in
theorem gX8_fingerprint_X8_in : GoodIn wsX8_fingerprint (va_wsS RX8 107 yX8_in wsX8_in) := goodIn_app (goodIn_of _ (by decide +kernel)) ggX8_fingerprint_X8_in
set_option maxRecDepth 20000 in
theorem ggX8_fingerprint_X8_told : GoodIn wsX8_fingerprint wsX8_told := goodIn_r _ [11, 12, 13, 14, 15, 6, 16, 1, 17, 18, 19, 20, 21, 22, 23, 24, 25, 26, 27, 28, 29, 30, 31, 32, 33, 34, 35, 36] (by decide +kernel) (by decide +kernel)
set_option maxRecDepth 20000 in
theorem gX8_fingerprint_X8_told : GoodIn wsX8_fingerprint (wsV RX8 186 RX8 yX8_told wsX8_told) := goodIn_app (goodIn_of _ (by decide +kernel)) ggX8_fingerprint_X8_told
theorem dX8_fingerprint_0 : decode cX8_fingerprint 0 = .ok (.aload_n 0, 1) := by decide +kernel
theorem dX8_fingerprint_1 : decode cX8_fingerprint 1 = .ok (.iconst 0, 1) := by decide +kernel
theorem dX8_fingerprint_2 : decode cX8_fingerprint 2 = .ok (.putfield 47, 3) := by decide +kernel
theorem dX8_fingerprint_5 : decode cX8_fingerprint 5 = .ok (.iload_n 1, 1) := by decide +kernel
theorem dX8_fingerprint_6 : decode cX8_fingerprint 6 = .ok (.iconst 0, 1) := by decide +kernel
theorem dX8_fingerprint_7 : decode cX8_fingerprint 7 = .ok (.aload_n 0, 1) := by decide +kernel
theorem dX8_fingerprint_8 : decode cX8_fingerprint 8 = .ok (.getfield 99, 3) := by decide +kernel
theorem dX8_fingerprint_11 : decode cX8_fingerprint 11 = .ok (.iconst 1, 1) := by decide +kernel
theorem dX8_fingerprint_12 : decode cX8_fingerprint 12 = .ok (.isub, 1) := by decide +kernel
theorem dX8_fingerprint_13 : decode cX8_fingerprint 13 = .ok (.invokestatic 107, 3) := by decide +kernel
theorem dX8_fingerprint_16 : decode cX8_fingerprint 16 = .ok (.istore_n 2, 1) := by decide +kernel
theorem dX8_fingerprint_17 : decode cX8_fingerprint 17 = .ok (.aload_n 0, 1) := by decide +kernel
theorem dX8_fingerprint_18 : decode cX8_fingerprint 18 = .ok (.iload_n 2, 1) := by decide +kernel
theorem dX8_fingerprint_19 : decode cX8_fingerprint 19 = .ok (.iload_n 2, 1) := by decide +kernel
theorem dX8_fingerprint_20 : decode cX8_fingerprint 20 = .ok (.ifCond .eq 12, 3) := by decide +kernel
theorem dX8_fingerprint_23 : decode cX8_fingerprint 23 = .ok (.aload_n 0, 1) := by decide +kernel
theorem dX8_fingerprint_24 : decode cX8_fingerprint 24 = .ok (.getfield 22, 3) := by decide +kernel
theorem dX8_fingerprint_27 : decode cX8_fingerprint 27 = .ok (.iload_n 1, 1) := by decide +kernel
theorem dX8_fingerprint_28 : decode cX8_fingerprint 28 = .ok (.iaload, 1) := by decide +kernel
theorem dX8_fingerprint_29 : decode cX8_fingerprint 29 = .ok (.goto 4, 3) := by decide +kernel
theorem dX8_fingerprint_32 : decode cX8_fingerprint 32 = .ok (.iconst 0, 1) := by decide +kernel
theorem dX8_fingerprint_33 : decode cX8_fingerprint 33 = .ok (.invokevirtual 186, 3) := by decide +kernel
theorem dX8_fingerprint_36 : decode cX8_fingerprint 36 = .ok (.ireturn, 1) := by decide +kernel
set_option maxRecDepth 20000 in
theorem ggX8_seed_X8_told : GoodIn wsX8_seed wsX8_told := goodIn_r _ [7, 8, 9, 10, 11, 6, 12, 1, 13, 14, 15, 16, 17, 18, 19, 20, 21, 22, 23, 24, 25, 26, 27, 28, 29, 30, 31, 32] (by decide +kernel) (by decide +kernel)
set_option maxRecDepth 20000 in
theorem gX8_seed_X8_told : GoodIn wsX8_seed (wsV RX8 186 RX8 yX8_told wsX8_told) := goodIn_app (goodIn_of _ (by decide +kernel)) ggX8_seed_X8_told
theorem dX8_seed_0 : decode cX8_seed 0 = .ok (.aload_n 0, 1) := by decide +kernel
theorem dX8_seed_1 : decode cX8_seed 1 = .ok (.iconst 0, 1) := by decide +kernel
theorem dX8_seed_2 : decode cX8_seed 2 = .ok (.putfield 47, 3) := by decide +kernel
theorem dX8_seed_5 : decode cX8_seed 5 = .ok (.aload_n 0, 1) := by decide +kernel
theorem dX8_seed_6 : decode cX8_seed 6 = .ok (.iconst 1, 1) := by decide +kernel
theorem dX8_seed_7 : decode cX8_seed 7 = .ok (.aload_n 0, 1) := by decide +kernel
theorem dX8_seed_8 : decode cX8_seed 8 = .ok (.getfield 162, 3) := by decide +kernel
theorem dX8_seed_11 : decode cX8_seed 11 = .ok (.invokevirtual 186, 3) := by decide +kernel
theorem dX8_seed_14 : decode cX8_seed 14 = .ok (.ireturn, 1) := by decide +kernel
set_option maxRecDepth 20000 in
theorem ggX8_buckets_X8_told : GoodIn wsX8_buckets wsX8_told := goodIn_r _ [7, 8, 9, 10, 11, 6, 12, 1, 13, 14, 15, 16, 17, 18, 19, 20, 21, 22, 23, 24, 25, 26, 27, 28, 29, 30, 31, 32] (by decide +kernel) (by decide +kernel)
set_option maxRecDepth 20000 in
theorem gX8_buckets_X8_told : GoodIn wsX8_buckets (wsV RX8 186 RX8 yX8_told wsX8_told) := goodIn_app (goodIn_of _ (by decide +kernel)) ggX8_buckets_X8_told
theorem dX8_buckets_0 : decode cX8_buckets 0 = .ok (.aload_n 0, 1) := by decide +kernel
theorem dX8_buckets_1 : decode cX8_buckets 1 = .ok (.iconst 0, 1) := by decide +kernel
theorem dX8_buckets_2 : decode cX8_buckets 2 = .ok (.putfield 47, 3) := by decide +kernel
theorem dX8_buckets_5 : decode cX8_buckets 5 = .ok (.aload_n 0, 1) := by decide +kernel
theorem dX8_buckets_6 : decode cX8_buckets 6 = .ok (.iconst 1, 1) := by decide +kernel
theorem dX8_buckets_7 : decode cX8_buckets 7 = .ok (.aload_n 0, 1) := by decide +kernel
theorem dX8_buckets_8 : decode cX8_buckets 8 = .ok (.getfield 149, 3) := by decide +kernel
theorem dX8_buckets_11 : decode cX8_buckets 11 = .ok (.invokevirtual 186, 3) := by decide +kernel
theorem dX8_buckets_14 : decode cX8_buckets 14 = .ok (.ireturn, 1) := by decide +kernel
set_option maxRecDepth 20000 in
theorem ggX8_inBucket_X8_in : GoodIn wsX8_inBucket wsX8_in := goodIn_r _ [7] (by decide +kernel) (by decide +kernel)
set_option maxRecDepth 20000 in
theorem gX8_inBucket_X8_in : GoodIn wsX8_inBucket (va_wsS RX8 107 yX8_in wsX8_in) := goodIn_app (goodIn_of _ (by decide +kernel)) ggX8_inBucket_X8_in
set_option maxRecDepth 20000 in
theorem ggX8_inBucket_X8_told : GoodIn wsX8_inBucket wsX8_told := goodIn_r _ [11, 12, 13, 14, 15, 6, 16, 1, 17, 18, 19, 20, 21, 22, 23, 24, 25, 26, 27, 28, 29, 30, 31, 32, 33, 34, 35, 36] (by decide +kernel) (by decide +kernel)
set_option maxRecDepth 20000 in
theorem gX8_inBucket_X8_told : GoodIn wsX8_inBucket (wsV RX8 186 RX8 yX8_told wsX8_told) := goodIn_app (goodIn_of _ (by decide +kernel)) ggX8_inBucket_X8_told
theorem dX8_inBucket_0 : decode cX8_inBucket 0 = .ok (.aload_n 0, 1) := by decide +kernel
theorem dX8_inBucket_1 : decode cX8_inBucket 1 = .ok (.iconst 0, 1) := by decide +kernel
theorem dX8_inBucket_2 : decode cX8_inBucket 2 = .ok (.putfield 47, 3) := by decide +kernel
theorem dX8_inBucket_5 : decode cX8_inBucket 5 = .ok (.iload_n 1, 1) := by decide +kernel
theorem dX8_inBucket_6 : decode cX8_inBucket 6 = .ok (.iconst 0, 1) := by decide +kernel
theorem dX8_inBucket_7 : decode cX8_inBucket 7 = .ok (.aload_n 0, 1) := by decide +kernel
theorem dX8_inBucket_8 : decode cX8_inBucket 8 = .ok (.getfield 149, 3) := by decide +kernel
theorem dX8_inBucket_11 : decode cX8_inBucket 11 = .ok (.iconst 1, 1) := by decide +kernel
theorem dX8_inBucket_12 : decode cX8_inBucket 12 = .ok (.isub, 1) := by decide +kernel
theorem dX8_inBucket_13 : decode cX8_inBucket 13 = .ok (.invokestatic 107, 3) := by decide +kernel
theorem dX8_inBucket_16 : decode cX8_inBucket 16 = .ok (.istore_n 2, 1) := by decide +kernel
theorem dX8_inBucket_17 : decode cX8_inBucket 17 = .ok (.aload_n 0, 1) := by decide +kernel
theorem dX8_inBucket_18 : decode cX8_inBucket 18 = .ok (.iload_n 2, 1) := by decide +kernel
theorem dX8_inBucket_19 : decode cX8_inBucket 19 = .ok (.iload_n 2, 1) := by decide +kernel
theorem dX8_inBucket_20 : decode cX8_inBucket 20 = .ok (.ifCond .eq 12, 3) := by decide +kernel
theorem dX8_inBucket_23 : decode cX8_inBucket 23 = .ok (.aload_n 0, 1) := by decide +kernel
theorem dX8_inBucket_24 : decode cX8_inBucket 24 = .ok (.getfield 13, 3) := by decide +kernel
theorem dX8_inBucket_27 : decode cX8_inBucket 27 = .ok (.iload_n 1, 1) := by decide +kernel
theorem dX8_inBucket_28 : decode cX8_inBucket 28 = .ok (.iaload, 1) := by decide +kernel
theorem dX8_inBucket_29 : decode cX8_inBucket 29 = .ok (.goto 4, 3) := by decide +kernel
theorem dX8_inBucket_32 : decode cX8_inBucket 32 = .ok (.iconst 0, 1) := by decide +kernel
theorem dX8_inBucket_33 : decode cX8_inBucket 33 = .ok (.invokevirtual 186, 3) := by decide +kernel
theorem dX8_inBucket_36 : decode cX8_inBucket 36 = .ok (.ireturn, 1) := by decide +kernel
set_option maxRecDepth 20000 in
theorem ggX8_displacement_X8_in : GoodIn wsX8_displacement wsX8_in := goodIn_r _ [7] (by decide +kernel) (by decide +kernel)
set_option maxRecDepth 20000 in
theorem gX8_displacement_X8_in : GoodIn wsX8_displacement (va_wsS RX8 107 yX8_in wsX8_in) := goodIn_app (goodIn_of _ (by decide +kernel)) ggX8_displacement_X8_in
set_option maxRecDepth 20000 in
theorem ggX8_displacement_X8_told : GoodIn wsX8_displacement wsX8_told := goodIn_r _ [11, 12, 13, 14, 15, 6, 16, 1, 17, 18, 19, 20, 21, 22, 23, 24, 25, 26, 27, 28, 29, 30, 31, 32, 33, 34, 35, 36] (by decide +kernel) (by decide +kernel)
set_option maxRecDepth 20000 in
theorem gX8_displacement_X8_told : GoodIn wsX8_displacement (wsV RX8 186 RX8 yX8_told wsX8_told) := goodIn_app (goodIn_of _ (by decide +kernel)) ggX8_displacement_X8_told
theorem dX8_displacement_0 : decode cX8_displacement 0 = .ok (.aload_n 0, 1) := by decide +kernel
theorem dX8_displacement_1 : decode cX8_displacement 1 = .ok (.iconst 0, 1) := by decide +kernel
theorem dX8_displacement_2 : decode cX8_displacement 2 = .ok (.putfield 47, 3) := by decide +kernel
theorem dX8_displacement_5 : decode cX8_displacement 5 = .ok (.iload_n 1, 1) := by decide +kernel
theorem dX8_displacement_6 : decode cX8_displacement 6 = .ok (.iconst 0, 1) := by decide +kernel
theorem dX8_displacement_7 : decode cX8_displacement 7 = .ok (.aload_n 0, 1) := by decide +kernel
theorem dX8_displacement_8 : decode cX8_displacement 8 = .ok (.getfield 149, 3) := by decide +kernel
theorem dX8_displacement_11 : decode cX8_displacement 11 = .ok (.iconst 1, 1) := by decide +kernel
theorem dX8_displacement_12 : decode cX8_displacement 12 = .ok (.isub, 1) := by decide +kernel
theorem dX8_displacement_13 : decode cX8_displacement 13 = .ok (.invokestatic 107, 3) := by decide +kernel
theorem dX8_displacement_16 : decode cX8_displacement 16 = .ok (.istore_n 2, 1) := by decide +kernel
theorem dX8_displacement_17 : decode cX8_displacement 17 = .ok (.aload_n 0, 1) := by decide +kernel
theorem dX8_displacement_18 : decode cX8_displacement 18 = .ok (.iload_n 2, 1) := by decide +kernel
theorem dX8_displacement_19 : decode cX8_displacement 19 = .ok (.iload_n 2, 1) := by decide +kernel
theorem dX8_displacement_20 : decode cX8_displacement 20 = .ok (.ifCond .eq 12, 3) := by decide +kernel
theorem dX8_displacement_23 : decode cX8_displacement 23 = .ok (.aload_n 0, 1) := by decide +kernel
theorem dX8_displacement_24 : decode cX8_displacement 24 = .ok (.getfield 16, 3) := by decide +kernel
theorem dX8_displacement_27 : decode cX8_displacement 27 = .ok (.iload_n 1, 1) := by decide +kernel
theorem dX8_displacement_28 : decode cX8_displacement 28 = .ok (.iaload, 1) := by decide +kernel
theorem dX8_displacement_29 : decode cX8_displacement 29 = .ok (.goto 4, 3) := by decide +kernel
theorem dX8_displacement_32 : decode cX8_displacement 32 = .ok (.iconst 0, 1) := by decide +kernel
theorem dX8_displacement_33 : decode cX8_displacement 33 = .ok (.invokevirtual 186, 3) := by decide +kernel
theorem dX8_displacement_36 : decode cX8_displacement 36 = .ok (.ireturn, 1) := by decide +kernel
set_option maxRecDepth 20000 in
theorem ggX8_width_X8_told : GoodIn wsX8_width wsX8_told := goodIn_r _ [7, 8, 9, 10, 11, 6, 12, 1, 13, 14, 15, 16, 17, 18, 19, 20, 21, 22, 23, 24, 25, 26, 27, 28, 29, 30, 31, 32] (by decide +kernel) (by decide +kernel)
set_option maxRecDepth 20000 in
theorem gX8_width_X8_told : GoodIn wsX8_width (wsV RX8 186 RX8 yX8_told wsX8_told) := goodIn_app (goodIn_of _ (by decide +kernel)) ggX8_width_X8_told
theorem dX8_width_0 : decode cX8_width 0 = .ok (.aload_n 0, 1) := by decide +kernel
theorem dX8_width_1 : decode cX8_width 1 = .ok (.iconst 0, 1) := by decide +kernel
theorem dX8_width_2 : decode cX8_width 2 = .ok (.putfield 47, 3) := by decide +kernel
theorem dX8_width_5 : decode cX8_width 5 = .ok (.aload_n 0, 1) := by decide +kernel
theorem dX8_width_6 : decode cX8_width 6 = .ok (.iconst 1, 1) := by decide +kernel
theorem dX8_width_7 : decode cX8_width 7 = .ok (.aload_n 0, 1) := by decide +kernel
theorem dX8_width_8 : decode cX8_width 8 = .ok (.getfield 152, 3) := by decide +kernel
theorem dX8_width_11 : decode cX8_width 11 = .ok (.invokevirtual 186, 3) := by decide +kernel
theorem dX8_width_14 : decode cX8_width 14 = .ok (.ireturn, 1) := by decide +kernel
set_option maxRecDepth 20000 in
theorem ggX8_word_X8_fails : GoodIn wsX8_word wsX8_fails := goodIn_r _ [10, 1, 14, 15, 16, 17, 18, 19, 20, 21, 22, 23, 24, 25, 26, 27, 28, 29, 30, 31, 32, 33] (by decide +kernel) (by decide +kernel)
set_option maxRecDepth 20000 in
theorem gX8_word_X8_fails : GoodIn wsX8_word (wsV RX8 111 RX8 yX8_fails wsX8_fails) := goodIn_app (goodIn_of _ (by decide +kernel)) ggX8_word_X8_fails
set_option maxRecDepth 20000 in
theorem ggX8_word_X8_in : GoodIn wsX8_word wsX8_in := goodIn_r _ [13] (by decide +kernel) (by decide +kernel)
set_option maxRecDepth 20000 in
theorem gX8_word_X8_in : GoodIn wsX8_word (va_wsS RX8 107 yX8_in wsX8_in) := goodIn_app (goodIn_of _ (by decide +kernel)) ggX8_word_X8_in
theorem dX8_word_0 : decode cX8_word 0 = .ok (.aload_n 0, 1) := by decide +kernel
theorem dX8_word_1 : decode cX8_word 1 = .ok (.iconst 0, 1) := by decide +kernel
theorem dX8_word_2 : decode cX8_word 2 = .ok (.putfield 47, 3) := by decide +kernel
theorem dX8_word_5 : decode cX8_word 5 = .ok (.aload_n 0, 1) := by decide +kernel
theorem dX8_word_6 : decode cX8_word 6 = .ok (.getfield 114, 3) := by decide +kernel
theorem dX8_word_9 : decode cX8_word 9 = .ok (.ifCond .ne 10, 3) := by decide +kernel
theorem dX8_word_12 : decode cX8_word 12 = .ok (.aload_n 0, 1) := by decide +kernel
theorem dX8_word_13 : decode cX8_word 13 = .ok (.iconst 1, 1) := by decide +kernel
theorem dX8_word_14 : decode cX8_word 14 = .ok (.invokevirtual 111, 3) := by decide +kernel
theorem dX8_word_17 : decode cX8_word 17 = .ok (.i2l, 1) := by decide +kernel
theorem dX8_word_18 : decode cX8_word 18 = .ok (.lreturn, 1) := by decide +kernel
theorem dX8_word_19 : decode cX8_word 19 = .ok (.iload_n 1, 1) := by decide +kernel
theorem dX8_word_20 : decode cX8_word 20 = .ok (.iconst 0, 1) := by decide +kernel
theorem dX8_word_21 : decode cX8_word 21 = .ok (.aload_n 0, 1) := by decide +kernel
theorem dX8_word_22 : decode cX8_word 22 = .ok (.getfield 149, 3) := by decide +kernel
theorem dX8_word_25 : decode cX8_word 25 = .ok (.aload_n 0, 1) := by decide +kernel
theorem dX8_word_26 : decode cX8_word 26 = .ok (.getfield 152, 3) := by decide +kernel
theorem dX8_word_29 : decode cX8_word 29 = .ok (.imul, 1) := by decide +kernel
theorem dX8_word_30 : decode cX8_word 30 = .ok (.iconst 1, 1) := by decide +kernel
theorem dX8_word_31 : decode cX8_word 31 = .ok (.isub, 1) := by decide +kernel
theorem dX8_word_32 : decode cX8_word 32 = .ok (.bipush 64, 2) := by decide +kernel
theorem dX8_word_34 : decode cX8_word 34 = .ok (.idiv, 1) := by decide +kernel
theorem dX8_word_35 : decode cX8_word 35 = .ok (.invokestatic 107, 3) := by decide +kernel
theorem dX8_word_38 : decode cX8_word 38 = .ok (.ifCond .eq 12, 3) := by decide +kernel
theorem dX8_word_41 : decode cX8_word 41 = .ok (.aload_n 0, 1) := by decide +kernel
theorem dX8_word_42 : decode cX8_word 42 = .ok (.getfield 34, 3) := by decide +kernel
theorem dX8_word_45 : decode cX8_word 45 = .ok (.iload_n 1, 1) := by decide +kernel
theorem dX8_word_46 : decode cX8_word 46 = .ok (.laload, 1) := by decide +kernel
theorem dX8_word_47 : decode cX8_word 47 = .ok (.goto 9, 3) := by decide +kernel
theorem dX8_word_50 : decode cX8_word 50 = .ok (.aload_n 0, 1) := by decide +kernel
theorem dX8_word_51 : decode cX8_word 51 = .ok (.iconst 2, 1) := by decide +kernel
theorem dX8_word_52 : decode cX8_word 52 = .ok (.invokevirtual 111, 3) := by decide +kernel
theorem dX8_word_55 : decode cX8_word 55 = .ok (.i2l, 1) := by decide +kernel
theorem dX8_word_56 : decode cX8_word 56 = .ok (.lreturn, 1) := by decide +kernel
set_option maxRecDepth 20000 in
theorem ggX8_byGraph_X8_in : GoodIn wsX8_byGraph wsX8_in := goodIn_r _ [10] (by decide +kernel) (by decide +kernel)
set_option maxRecDepth 20000 in
theorem gX8_byGraph_X8_in : GoodIn wsX8_byGraph (va_wsS RX8 107 yX8_in wsX8_in) := goodIn_app (goodIn_of _ (by decide +kernel)) ggX8_byGraph_X8_in
set_option maxRecDepth 20000 in
theorem ggX8_byGraph_X8_fails : GoodIn wsX8_byGraph wsX8_fails := goodIn_r _ [14, 1, 46, 47, 48, 49, 50, 51, 52, 53, 54, 55, 56, 57, 58, 59, 60, 61, 62, 63, 64, 65] (by decide +kernel) (by decide +kernel)
set_option maxRecDepth 20000 in
theorem gX8_byGraph_X8_fails : GoodIn wsX8_byGraph (wsV RX8 111 RX8 yX8_fails wsX8_fails) := goodIn_app (goodIn_of _ (by decide +kernel)) ggX8_byGraph_X8_fails
set_option maxRecDepth 20000 in
theorem ggX8_byGraph_X8_hash : GoodIn wsX8_byGraph wsX8_hash := goodIn_r _ [17, 18, 19, 20, 9, 21, 22, 23, 24, 25, 26, 27, 28, 29, 30, 31, 32, 33, 34, 35, 36, 37, 38, 39, 40, 41, 42, 43, 44, 45] (by decide +kernel) (by decide +kernel)
set_option maxRecDepth 20000 in
theorem gX8_byGraph_X8_hash : GoodIn wsX8_byGraph (va_wsS RX8 126 yX8_hash wsX8_hash) := goodIn_app (goodIn_of _ (by decide +kernel)) ggX8_byGraph_X8_hash
theorem dX8_byGraph_0 : decode cX8_byGraph 0 = .ok (.aload_n 0, 1) := by decide +kernel
theorem dX8_byGraph_1 : decode cX8_byGraph 1 = .ok (.iconst 0, 1) := by decide +kernel
theorem dX8_byGraph_2 : decode cX8_byGraph 2 = .ok (.putfield 47, 3) := by decide +kernel
theorem dX8_byGraph_5 : decode cX8_byGraph 5 = .ok (.iload_n 1, 1) := by decide +kernel
theorem dX8_byGraph_6 : decode cX8_byGraph 6 = .ok (.iconst 0, 1) := by decide +kernel
theorem dX8_byGraph_7 : decode cX8_byGraph 7 = .ok (.ldc 106, 2) := by decide +kernel
theorem dX8_byGraph_9 : decode cX8_byGraph 9 = .ok (.invokestatic 107, 3) := by decide +kernel
theorem dX8_byGraph_12 : decode cX8_byGraph 12 = .ok (.ifCond .ne 9, 3) := by decide +kernel
theorem dX8_byGraph_15 : decode cX8_byGraph 15 = .ok (.aload_n 0, 1) := by decide +kernel
theorem dX8_byGraph_16 : decode cX8_byGraph 16 = .ok (.iconst 1, 1) := by decide +kernel
theorem dX8_byGraph_17 : decode cX8_byGraph 17 = .ok (.invokevirtual 111, 3) := by decide +kernel
theorem dX8_byGraph_20 : decode cX8_byGraph 20 = .ok (.ireturn, 1) := by decide +kernel
theorem dX8_byGraph_21 : decode cX8_byGraph 21 = .ok (.aload_n 0, 1) := by decide +kernel
theorem dX8_byGraph_22 : decode cX8_byGraph 22 = .ok (.getfield 114, 3) := by decide +kernel
theorem dX8_byGraph_25 : decode cX8_byGraph 25 = .ok (.ifCond .ne 9, 3) := by decide +kernel
theorem dX8_byGraph_28 : decode cX8_byGraph 28 = .ok (.aload_n 0, 1) := by decide +kernel
theorem dX8_byGraph_29 : decode cX8_byGraph 29 = .ok (.iconst 2, 1) := by decide +kernel
theorem dX8_byGraph_30 : decode cX8_byGraph 30 = .ok (.invokevirtual 111, 3) := by decide +kernel
theorem dX8_byGraph_33 : decode cX8_byGraph 33 = .ok (.ireturn, 1) := by decide +kernel
theorem dX8_byGraph_34 : decode cX8_byGraph 34 = .ok (.aload_n 0, 1) := by decide +kernel
theorem dX8_byGraph_35 : decode cX8_byGraph 35 = .ok (.getfield 38, 3) := by decide +kernel
theorem dX8_byGraph_38 : decode cX8_byGraph 38 = .ok (.iconst 4, 1) := by decide +kernel
theorem dX8_byGraph_39 : decode cX8_byGraph 39 = .ok (.iload_n 1, 1) := by decide +kernel
theorem dX8_byGraph_40 : decode cX8_byGraph 40 = .ok (.aload_n 0, 1) := by decide +kernel
theorem dX8_byGraph_41 : decode cX8_byGraph 41 = .ok (.getfield 165, 3) := by decide +kernel
theorem dX8_byGraph_44 : decode cX8_byGraph 44 = .ok (.invokestatic 126, 3) := by decide +kernel
theorem dX8_byGraph_47 : decode cX8_byGraph 47 = .ok (.iconst 3, 1) := by decide +kernel
theorem dX8_byGraph_48 : decode cX8_byGraph 48 = .ok (.aload_n 0, 1) := by decide +kernel
theorem dX8_byGraph_49 : decode cX8_byGraph 49 = .ok (.getfield 99, 3) := by decide +kernel
theorem dX8_byGraph_52 : decode cX8_byGraph 52 = .ok (.imul, 1) := by decide +kernel
theorem dX8_byGraph_53 : decode cX8_byGraph 53 = .ok (.irem, 1) := by decide +kernel
theorem dX8_byGraph_54 : decode cX8_byGraph 54 = .ok (.iaload, 1) := by decide +kernel
theorem dX8_byGraph_55 : decode cX8_byGraph 55 = .ok (.aload_n 0, 1) := by decide +kernel
theorem dX8_byGraph_56 : decode cX8_byGraph 56 = .ok (.getfield 38, 3) := by decide +kernel
theorem dX8_byGraph_59 : decode cX8_byGraph 59 = .ok (.iconst 5, 1) := by decide +kernel
theorem dX8_byGraph_60 : decode cX8_byGraph 60 = .ok (.iload_n 1, 1) := by decide +kernel
theorem dX8_byGraph_61 : decode cX8_byGraph 61 = .ok (.aload_n 0, 1) := by decide +kernel
theorem dX8_byGraph_62 : decode cX8_byGraph 62 = .ok (.getfield 165, 3) := by decide +kernel
theorem dX8_byGraph_65 : decode cX8_byGraph 65 = .ok (.invokestatic 126, 3) := by decide +kernel
theorem dX8_byGraph_68 : decode cX8_byGraph 68 = .ok (.iconst 3, 1) := by decide +kernel
theorem dX8_byGraph_69 : decode cX8_byGraph 69 = .ok (.aload_n 0, 1) := by decide +kernel
theorem dX8_byGraph_70 : decode cX8_byGraph 70 = .ok (.getfield 99, 3) := by decide +kernel
theorem dX8_byGraph_73 : decode cX8_byGraph 73 = .ok (.imul, 1) := by decide +kernel
theorem dX8_byGraph_74 : decode cX8_byGraph 74 = .ok (.irem, 1) := by decide +kernel
theorem dX8_byGraph_75 : decode cX8_byGraph 75 = .ok (.iaload, 1) := by decide +kernel
theorem dX8_byGraph_76 : decode cX8_byGraph 76 = .ok (.iadd, 1) := by decide +kernel
theorem dX8_byGraph_77 : decode cX8_byGraph 77 = .ok (.aload_n 0, 1) := by decide +kernel
theorem dX8_byGraph_78 : decode cX8_byGraph 78 = .ok (.getfield 99, 3) := by decide +kernel
theorem dX8_byGraph_81 : decode cX8_byGraph 81 = .ok (.irem, 1) := by decide +kernel
theorem dX8_byGraph_82 : decode cX8_byGraph 82 = .ok (.ireturn, 1) := by decide +kernel
set_option maxRecDepth 20000 in
theorem ggX8_graphSeed_X8_told : GoodIn wsX8_graphSeed wsX8_told := goodIn_r _ [7, 8, 9, 10, 11, 6, 12, 1, 13, 14, 15, 16, 17, 18, 19, 20, 21, 22, 23, 24, 25, 26, 27, 28, 29, 30, 31, 32] (by decide +kernel) (by decide +kernel)
set_option maxRecDepth 20000 in
theorem gX8_graphSeed_X8_told : GoodIn wsX8_graphSeed (wsV RX8 186 RX8 yX8_told wsX8_told) := goodIn_app (goodIn_of _ (by decide +kernel)) ggX8_graphSeed_X8_told
theorem dX8_graphSeed_0 : decode cX8_graphSeed 0 = .ok (.aload_n 0, 1) := by decide +kernel
theorem dX8_graphSeed_1 : decode cX8_graphSeed 1 = .ok (.iconst 0, 1) := by decide +kernel
theorem dX8_graphSeed_2 : decode cX8_graphSeed 2 = .ok (.putfield 47, 3) := by decide +kernel
theorem dX8_graphSeed_5 : decode cX8_graphSeed 5 = .ok (.aload_n 0, 1) := by decide +kernel
theorem dX8_graphSeed_6 : decode cX8_graphSeed 6 = .ok (.iconst 1, 1) := by decide +kernel
theorem dX8_graphSeed_7 : decode cX8_graphSeed 7 = .ok (.aload_n 0, 1) := by decide +kernel
theorem dX8_graphSeed_8 : decode cX8_graphSeed 8 = .ok (.getfield 165, 3) := by decide +kernel
theorem dX8_graphSeed_11 : decode cX8_graphSeed 11 = .ok (.invokevirtual 186, 3) := by decide +kernel
theorem dX8_graphSeed_14 : decode cX8_graphSeed 14 = .ok (.ireturn, 1) := by decide +kernel
set_option maxRecDepth 20000 in
theorem ggX8_valueOf_X8_in : GoodIn wsX8_valueOf wsX8_in := goodIn_r _ [7] (by decide +kernel) (by decide +kernel)
set_option maxRecDepth 20000 in
theorem gX8_valueOf_X8_in : GoodIn wsX8_valueOf (va_wsS RX8 107 yX8_in wsX8_in) := goodIn_app (goodIn_of _ (by decide +kernel)) ggX8_valueOf_X8_in
set_option maxRecDepth 20000 in
theorem ggX8_valueOf_X8_told : GoodIn wsX8_valueOf wsX8_told := goodIn_r _ [11, 12, 13, 14, 15, 6, 16, 1, 17, 18, 19, 20, 21, 22, 23, 24, 25, 26, 27, 28, 29, 30, 31, 32, 33, 34, 35, 36] (by decide +kernel) (by decide +kernel)
set_option maxRecDepth 20000 in
theorem gX8_valueOf_X8_told : GoodIn wsX8_valueOf (wsV RX8 186 RX8 yX8_told wsX8_told) := goodIn_app (goodIn_of _ (by decide +kernel)) ggX8_valueOf_X8_told
theorem dX8_valueOf_0 : decode cX8_valueOf 0 = .ok (.aload_n 0, 1) := by decide +kernel
theorem dX8_valueOf_1 : decode cX8_valueOf 1 = .ok (.iconst 0, 1) := by decide +kernel
theorem dX8_valueOf_2 : decode cX8_valueOf 2 = .ok (.putfield 47, 3) := by decide +kernel
theorem dX8_valueOf_5 : decode cX8_valueOf 5 = .ok (.iload_n 1, 1) := by decide +kernel
theorem dX8_valueOf_6 : decode cX8_valueOf 6 = .ok (.iconst 0, 1) := by decide +kernel
theorem dX8_valueOf_7 : decode cX8_valueOf 7 = .ok (.iconst 3, 1) := by decide +kernel
theorem dX8_valueOf_8 : decode cX8_valueOf 8 = .ok (.aload_n 0, 1) := by decide +kernel
theorem dX8_valueOf_9 : decode cX8_valueOf 9 = .ok (.getfield 99, 3) := by decide +kernel
theorem dX8_valueOf_12 : decode cX8_valueOf 12 = .ok (.imul, 1) := by decide +kernel
theorem dX8_valueOf_13 : decode cX8_valueOf 13 = .ok (.iconst 1, 1) := by decide +kernel
theorem dX8_valueOf_14 : decode cX8_valueOf 14 = .ok (.isub, 1) := by decide +kernel
theorem dX8_valueOf_15 : decode cX8_valueOf 15 = .ok (.invokestatic 107, 3) := by decide +kernel
theorem dX8_valueOf_18 : decode cX8_valueOf 18 = .ok (.istore_n 2, 1) := by decide +kernel
theorem dX8_valueOf_19 : decode cX8_valueOf 19 = .ok (.aload_n 0, 1) := by decide +kernel
theorem dX8_valueOf_20 : decode cX8_valueOf 20 = .ok (.iload_n 2, 1) := by decide +kernel
theorem dX8_valueOf_21 : decode cX8_valueOf 21 = .ok (.iload_n 2, 1) := by decide +kernel
theorem dX8_valueOf_22 : decode cX8_valueOf 22 = .ok (.ifCond .eq 12, 3) := by decide +kernel
theorem dX8_valueOf_25 : decode cX8_valueOf 25 = .ok (.aload_n 0, 1) := by decide +kernel
theorem dX8_valueOf_26 : decode cX8_valueOf 26 = .ok (.getfield 38, 3) := by decide +kernel
theorem dX8_valueOf_29 : decode cX8_valueOf 29 = .ok (.iload_n 1, 1) := by decide +kernel
theorem dX8_valueOf_30 : decode cX8_valueOf 30 = .ok (.iaload, 1) := by decide +kernel
theorem dX8_valueOf_31 : decode cX8_valueOf 31 = .ok (.goto 4, 3) := by decide +kernel
theorem dX8_valueOf_34 : decode cX8_valueOf 34 = .ok (.iconst 0, 1) := by decide +kernel
theorem dX8_valueOf_35 : decode cX8_valueOf 35 = .ok (.invokevirtual 186, 3) := by decide +kernel
theorem dX8_valueOf_38 : decode cX8_valueOf 38 = .ok (.ireturn, 1) := by decide +kernel
theorem dJ9_max_7cf53_0 : decode cJ9_max_7cf53 0 = .ok (.iload_n 0, 1) := by decide +kernel
theorem dJ9_max_7cf53_1 : decode cJ9_max_7cf53 1 = .ok (.iload_n 1, 1) := by decide +kernel
theorem dJ9_max_7cf53_2 : decode cJ9_max_7cf53 2 = .ok (.if_icmp .lt 7, 3) := by decide +kernel
theorem dJ9_max_7cf53_5 : decode cJ9_max_7cf53 5 = .ok (.iload_n 0, 1) := by decide +kernel
theorem dJ9_max_7cf53_6 : decode cJ9_max_7cf53 6 = .ok (.goto 4, 3) := by decide +kernel
theorem dJ9_max_7cf53_9 : decode cJ9_max_7cf53 9 = .ok (.iload_n 1, 1) := by decide +kernel
theorem dJ9_max_7cf53_10 : decode cJ9_max_7cf53 10 = .ok (.ireturn, 1) := by decide +kernel
theorem dJ9_min_7cf53_0 : decode cJ9_min_7cf53 0 = .ok (.iload_n 0, 1) := by decide +kernel
theorem dJ9_min_7cf53_1 : decode cJ9_min_7cf53 1 = .ok (.iload_n 1, 1) := by decide +kernel
theorem dJ9_min_7cf53_2 : decode cJ9_min_7cf53 2 = .ok (.if_icmp .gt 7, 3) := by decide +kernel
theorem dJ9_min_7cf53_5 : decode cJ9_min_7cf53 5 = .ok (.iload_n 0, 1) := by decide +kernel
theorem dJ9_min_7cf53_6 : decode cJ9_min_7cf53 6 = .ok (.goto 4, 3) := by decide +kernel
theorem dJ9_min_7cf53_9 : decode cJ9_min_7cf53 9 = .ok (.iload_n 1, 1) := by decide +kernel
theorem dJ9_min_7cf53_10 : decode cJ9_min_7cf53 10 = .ok (.ireturn, 1) := by decide +kernel
theorem dJ7_fill_d0a16_0 : decode cJ7_fill_d0a16 0 = .ok (.iconst 0, 1) := by decide +kernel
theorem dJ7_fill_d0a16_1 : decode cJ7_fill_d0a16 1 = .ok (.istore_n 3, 1) := by decide +kernel
theorem dJ7_fill_d0a16_2 : decode cJ7_fill_d0a16 2 = .ok (.aload_n 0, 1) := by decide +kernel
theorem dJ7_fill_d0a16_3 : decode cJ7_fill_d0a16 3 = .ok (.arraylength, 1) := by decide +kernel
theorem dJ7_fill_d0a16_4 : decode cJ7_fill_d0a16 4 = .ok (.istore 4, 2) := by decide +kernel
theorem dJ7_fill_d0a16_6 : decode cJ7_fill_d0a16 6 = .ok (.iload_n 3, 1) := by decide +kernel
theorem dJ7_fill_d0a16_7 : decode cJ7_fill_d0a16 7 = .ok (.iload 4, 2) := by decide +kernel
theorem dJ7_fill_d0a16_9 : decode cJ7_fill_d0a16 9 = .ok (.if_icmp .ge 13, 3) := by decide +kernel
theorem dJ7_fill_d0a16_12 : decode cJ7_fill_d0a16 12 = .ok (.aload_n 0, 1) := by decide +kernel
theorem dJ7_fill_d0a16_13 : decode cJ7_fill_d0a16 13 = .ok (.iload_n 3, 1) := by decide +kernel
theorem dJ7_fill_d0a16_14 : decode cJ7_fill_d0a16 14 = .ok (.lload_n 1, 1) := by decide +kernel
theorem dJ7_fill_d0a16_15 : decode cJ7_fill_d0a16 15 = .ok (.lastore, 1) := by decide +kernel
theorem dJ7_fill_d0a16_16 : decode cJ7_fill_d0a16 16 = .ok (.iinc 3 1, 3) := by decide +kernel
theorem dJ7_fill_d0a16_19 : decode cJ7_fill_d0a16 19 = .ok (.goto (-13), 3) := by decide +kernel
theorem dJ7_fill_d0a16_22 : decode cJ7_fill_d0a16 22 = .ok (.return_, 1) := by decide +kernel
theorem dJ7_fill_53178_0 : decode cJ7_fill_53178 0 = .ok (.iconst 0, 1) := by decide +kernel
theorem dJ7_fill_53178_1 : decode cJ7_fill_53178 1 = .ok (.istore_n 2, 1) := by decide +kernel
theorem dJ7_fill_53178_2 : decode cJ7_fill_53178 2 = .ok (.aload_n 0, 1) := by decide +kernel
theorem dJ7_fill_53178_3 : decode cJ7_fill_53178 3 = .ok (.arraylength, 1) := by decide +kernel
theorem dJ7_fill_53178_4 : decode cJ7_fill_53178 4 = .ok (.istore_n 3, 1) := by decide +kernel
theorem dJ7_fill_53178_5 : decode cJ7_fill_53178 5 = .ok (.iload_n 2, 1) := by decide +kernel
theorem dJ7_fill_53178_6 : decode cJ7_fill_53178 6 = .ok (.iload_n 3, 1) := by decide +kernel
theorem dJ7_fill_53178_7 : decode cJ7_fill_53178 7 = .ok (.if_icmp .ge 13, 3) := by decide +kernel
theorem dJ7_fill_53178_10 : decode cJ7_fill_53178 10 = .ok (.aload_n 0, 1) := by decide +kernel
theorem dJ7_fill_53178_11 : decode cJ7_fill_53178 11 = .ok (.iload_n 2, 1) := by decide +kernel
theorem dJ7_fill_53178_12 : decode cJ7_fill_53178 12 = .ok (.iload_n 1, 1) := by decide +kernel
theorem dJ7_fill_53178_13 : decode cJ7_fill_53178 13 = .ok (.iastore, 1) := by decide +kernel
theorem dJ7_fill_53178_14 : decode cJ7_fill_53178 14 = .ok (.iinc 2 1, 3) := by decide +kernel
theorem dJ7_fill_53178_17 : decode cJ7_fill_53178 17 = .ok (.goto (-12), 3) := by decide +kernel
theorem dJ7_fill_53178_20 : decode cJ7_fill_53178 20 = .ok (.return_, 1) := by decide +kernel
set_option maxRecDepth 20000 in
theorem ggL_add_X7_add : GoodIn wsL_add wsX7_add := goodIn_ca (goodIn_ca (goodIn_r _ [7, 8, 9, 10, 11, 12, 6, 13, 14, 15, 16, 17, 18, 19, 20, 21, 22, 23, 24, 25, 26, 27, 28, 29, 30, 31, 32, 33, 34, 35, 36, 37, 38, 39, 40, 41, 42, 43, 44, 45, 46, 47, 48, 49, 50, 51, 52, 53, 54, 55, 56] (by decide +kernel) (by decide +kernel)) (goodIn_sub (fun _ h => List.mem_cons_of_mem _ (List.mem_append_left _ (List.mem_append_right _ h))) (by decide +kernel))) (goodIn_sub (fun _ h => List.mem_cons_of_mem _ (List.mem_append_right _ h)) (by decide +kernel))
set_option maxRecDepth 20000 in
theorem gL_add_X7_add : GoodIn wsL_add (wsV RL 7 RX7 yX7_add wsX7_add) := goodIn_app (goodIn_of _ (by decide +kernel)) ggL_add_X7_add
theorem dL_add_0 : decode cL_add 0 = .ok (.aload_n 2, 1) := by decide +kernel
theorem dL_add_1 : decode cL_add 1 = .ok (.iconst 0, 1) := by decide +kernel
theorem dL_add_2 : decode cL_add 2 = .ok (.aload_n 0, 1) := by decide +kernel
theorem dL_add_3 : decode cL_add 3 = .ok (.iload_n 1, 1) := by decide +kernel
theorem dL_add_4 : decode cL_add 4 = .ok (.invokevirtual 7, 3) := by decide +kernel
theorem dL_add_7 : decode cL_add 7 = .ok (.i2l, 1) := by decide +kernel
theorem dL_add_8 : decode cL_add 8 = .ok (.lastore, 1) := by decide +kernel
theorem dL_add_9 : decode cL_add 9 = .ok (.goto 9, 3) := by decide +kernel
theorem dL_add_12 : decode cL_add 12 = .ok (.astore_n 3, 1) := by decide +kernel
theorem dL_add_13 : decode cL_add 13 = .ok (.iconst 1, 1) := by decide +kernel
theorem dL_add_14 : decode cL_add 14 = .ok (.ireturn, 1) := by decide +kernel
theorem dL_add_15 : decode cL_add 15 = .ok (.astore_n 3, 1) := by decide +kernel
theorem dL_add_16 : decode cL_add 16 = .ok (.iconst 2, 1) := by decide +kernel
theorem dL_add_17 : decode cL_add 17 = .ok (.ireturn, 1) := by decide +kernel
theorem dL_add_18 : decode cL_add 18 = .ok (.iconst 0, 1) := by decide +kernel
theorem dL_add_19 : decode cL_add 19 = .ok (.ireturn, 1) := by decide +kernel
set_option maxRecDepth 20000 in
theorem ggL_addLine_X7_addLine : GoodIn wsL_addLine wsX7_addLine := goodIn_ca (goodIn_ca (goodIn_r _ [7, 8, 9, 10, 6, 11, 12, 13, 14, 15, 16, 17, 18, 19, 20, 21, 22, 23, 24, 25, 26, 27, 28, 29, 30, 31, 32, 33, 34, 35, 36, 37, 38, 39, 40, 41, 42, 43, 44, 45, 46, 47, 48, 49, 50, 51, 52, 53, 54, 55, 56, 57, 58, 59, 60, 61, 62, 63] (by decide +kernel) (by decide +kernel)) (goodIn_sub (fun _ h => List.mem_cons_of_mem _ (List.mem_append_left _ (List.mem_append_right _ h))) (by decide +kernel))) (goodIn_sub (fun _ h => List.mem_cons_of_mem _ (List.mem_append_right _ h)) (by decide +kernel))
set_option maxRecDepth 20000 in
theorem gL_addLine_X7_addLine : GoodIn wsL_addLine (wsV RL 17 RX7 yX7_addLine wsX7_addLine) := goodIn_app (goodIn_of _ (by decide +kernel)) ggL_addLine_X7_addLine
theorem dL_addLine_0 : decode cL_addLine 0 = .ok (.aload 4, 2) := by decide +kernel
theorem dL_addLine_2 : decode cL_addLine 2 = .ok (.iconst 0, 1) := by decide +kernel
theorem dL_addLine_3 : decode cL_addLine 3 = .ok (.aload_n 0, 1) := by decide +kernel
theorem dL_addLine_4 : decode cL_addLine 4 = .ok (.iload_n 1, 1) := by decide +kernel
theorem dL_addLine_5 : decode cL_addLine 5 = .ok (.iload_n 2, 1) := by decide +kernel
theorem dL_addLine_6 : decode cL_addLine 6 = .ok (.iload_n 3, 1) := by decide +kernel
theorem dL_addLine_7 : decode cL_addLine 7 = .ok (.invokevirtual 17, 3) := by decide +kernel
theorem dL_addLine_10 : decode cL_addLine 10 = .ok (.i2l, 1) := by decide +kernel
theorem dL_addLine_11 : decode cL_addLine 11 = .ok (.lastore, 1) := by decide +kernel
theorem dL_addLine_12 : decode cL_addLine 12 = .ok (.goto 11, 3) := by decide +kernel
theorem dL_addLine_15 : decode cL_addLine 15 = .ok (.astore 5, 2) := by decide +kernel
theorem dL_addLine_17 : decode cL_addLine 17 = .ok (.iconst 1, 1) := by decide +kernel
theorem dL_addLine_18 : decode cL_addLine 18 = .ok (.ireturn, 1) := by decide +kernel
theorem dL_addLine_19 : decode cL_addLine 19 = .ok (.astore 5, 2) := by decide +kernel
theorem dL_addLine_21 : decode cL_addLine 21 = .ok (.iconst 2, 1) := by decide +kernel
theorem dL_addLine_22 : decode cL_addLine 22 = .ok (.ireturn, 1) := by decide +kernel
theorem dL_addLine_23 : decode cL_addLine 23 = .ok (.iconst 0, 1) := by decide +kernel
theorem dL_addLine_24 : decode cL_addLine 24 = .ok (.ireturn, 1) := by decide +kernel
set_option maxRecDepth 20000 in
theorem ggL_remove_X7_remove : GoodIn wsL_remove wsX7_remove := goodIn_ca (goodIn_ca (goodIn_r _ [7, 8, 9, 10, 11, 12, 6, 13, 14, 15, 16, 17, 18, 19, 20, 21, 22, 23, 24, 25, 26, 27, 28, 29, 30, 31, 32, 33, 34, 35, 36, 37, 38, 39, 40, 41, 42, 43, 44, 45, 46, 47, 48, 49, 50, 51, 52] (by decide +kernel) (by decide +kernel)) (goodIn_sub (fun _ h => List.mem_cons_of_mem _ (List.mem_append_left _ (List.mem_append_right _ h))) (by decide +kernel))) (goodIn_sub (fun _ h => List.mem_cons_of_mem _ (List.mem_append_right _ h)) (by decide +kernel))
set_option maxRecDepth 20000 in
theorem gL_remove_X7_remove : GoodIn wsL_remove (wsV RL 21 RX7 yX7_remove wsX7_remove) := goodIn_app (goodIn_of _ (by decide +kernel)) ggL_remove_X7_remove
theorem dL_remove_0 : decode cL_remove 0 = .ok (.aload_n 2, 1) := by decide +kernel
theorem dL_remove_1 : decode cL_remove 1 = .ok (.iconst 0, 1) := by decide +kernel
theorem dL_remove_2 : decode cL_remove 2 = .ok (.aload_n 0, 1) := by decide +kernel
theorem dL_remove_3 : decode cL_remove 3 = .ok (.iload_n 1, 1) := by decide +kernel
theorem dL_remove_4 : decode cL_remove 4 = .ok (.invokevirtual 21, 3) := by decide +kernel
theorem dL_remove_7 : decode cL_remove 7 = .ok (.i2l, 1) := by decide +kernel
theorem dL_remove_8 : decode cL_remove 8 = .ok (.lastore, 1) := by decide +kernel
theorem dL_remove_9 : decode cL_remove 9 = .ok (.goto 9, 3) := by decide +kernel
theorem dL_remove_12 : decode cL_remove 12 = .ok (.astore_n 3, 1) := by decide +kernel
theorem dL_remove_13 : decode cL_remove 13 = .ok (.iconst 1, 1) := by decide +kernel
theorem dL_remove_14 : decode cL_remove 14 = .ok (.ireturn, 1) := by decide +kernel
theorem dL_remove_15 : decode cL_remove 15 = .ok (.astore_n 3, 1) := by decide +kernel
theorem dL_remove_16 : decode cL_remove 16 = .ok (.iconst 2, 1) := by decide +kernel
theorem dL_remove_17 : decode cL_remove 17 = .ok (.ireturn, 1) := by decide +kernel
theorem dL_remove_18 : decode cL_remove 18 = .ok (.iconst 0, 1) := by decide +kernel
theorem dL_remove_19 : decode cL_remove 19 = .ok (.ireturn, 1) := by decide +kernel
set_option maxRecDepth 20000 in
theorem ggL_has_X7_has : GoodIn wsL_has wsX7_has := goodIn_ca (goodIn_r _ [6, 7, 8, 9, 5, 10, 11, 12, 13, 14, 15, 16, 17, 18, 19, 20, 21, 22, 23, 24, 25, 26, 27, 28, 29, 30, 31, 32, 33, 34, 35, 36, 37, 38] (by decide +kernel) (by decide +kernel)) (goodIn_sub (fun _ h => List.mem_cons_of_mem _ (List.mem_append_right _ h)) (by decide +kernel))
set_option maxRecDepth 20000 in
theorem gL_has_X7_has : GoodIn wsL_has (wsV RL 24 RX7 yX7_has wsX7_has) := goodIn_app (goodIn_of _ (by decide +kernel)) ggL_has_X7_has
theorem dL_has_0 : decode cL_has 0 = .ok (.aload_n 2, 1) := by decide +kernel
theorem dL_has_1 : decode cL_has 1 = .ok (.iconst 0, 1) := by decide +kernel
theorem dL_has_2 : decode cL_has 2 = .ok (.aload_n 0, 1) := by decide +kernel
theorem dL_has_3 : decode cL_has 3 = .ok (.iload_n 1, 1) := by decide +kernel
theorem dL_has_4 : decode cL_has 4 = .ok (.invokevirtual 24, 3) := by decide +kernel
theorem dL_has_7 : decode cL_has 7 = .ok (.ifCond .eq 7, 3) := by decide +kernel
theorem dL_has_10 : decode cL_has 10 = .ok (.lconst 1, 1) := by decide +kernel
theorem dL_has_11 : decode cL_has 11 = .ok (.goto 4, 3) := by decide +kernel
theorem dL_has_14 : decode cL_has 14 = .ok (.lconst 0, 1) := by decide +kernel
theorem dL_has_15 : decode cL_has 15 = .ok (.lastore, 1) := by decide +kernel
theorem dL_has_16 : decode cL_has 16 = .ok (.goto 6, 3) := by decide +kernel
theorem dL_has_19 : decode cL_has 19 = .ok (.astore_n 3, 1) := by decide +kernel
theorem dL_has_20 : decode cL_has 20 = .ok (.iconst 1, 1) := by decide +kernel
theorem dL_has_21 : decode cL_has 21 = .ok (.ireturn, 1) := by decide +kernel
theorem dL_has_22 : decode cL_has 22 = .ok (.iconst 0, 1) := by decide +kernel
theorem dL_has_23 : decode cL_has 23 = .ok (.ireturn, 1) := by decide +kernel
set_option maxRecDepth 20000 in
theorem ggL_keyAt_X7_keyAt : GoodIn wsL_keyAt wsX7_keyAt := goodIn_ca (goodIn_r _ [6, 7, 8, 9, 5, 10, 11, 12, 13, 14, 15, 16, 17, 18, 19, 20, 21, 22, 23, 24, 25, 26, 27, 28, 29, 30, 31, 32] (by decide +kernel) (by decide +kernel)) (goodIn_sub (fun _ h => List.mem_cons_of_mem _ (List.mem_append_right _ h)) (by decide +kernel))
set_option maxRecDepth 20000 in
theorem gL_keyAt_X7_keyAt : GoodIn wsL_keyAt (wsV RL 28 RX7 yX7_keyAt wsX7_keyAt) := goodIn_app (goodIn_of _ (by decide +kernel)) ggL_keyAt_X7_keyAt
theorem dL_keyAt_0 : decode cL_keyAt 0 = .ok (.aload_n 2, 1) := by decide +kernel
theorem dL_keyAt_1 : decode cL_keyAt 1 = .ok (.iconst 0, 1) := by decide +kernel
theorem dL_keyAt_2 : decode cL_keyAt 2 = .ok (.aload_n 0, 1) := by decide +kernel
theorem dL_keyAt_3 : decode cL_keyAt 3 = .ok (.iload_n 1, 1) := by decide +kernel
theorem dL_keyAt_4 : decode cL_keyAt 4 = .ok (.invokevirtual 28, 3) := by decide +kernel
theorem dL_keyAt_7 : decode cL_keyAt 7 = .ok (.i2l, 1) := by decide +kernel
theorem dL_keyAt_8 : decode cL_keyAt 8 = .ok (.lastore, 1) := by decide +kernel
theorem dL_keyAt_9 : decode cL_keyAt 9 = .ok (.goto 6, 3) := by decide +kernel
theorem dL_keyAt_12 : decode cL_keyAt 12 = .ok (.astore_n 3, 1) := by decide +kernel
theorem dL_keyAt_13 : decode cL_keyAt 13 = .ok (.iconst 1, 1) := by decide +kernel
theorem dL_keyAt_14 : decode cL_keyAt 14 = .ok (.ireturn, 1) := by decide +kernel
theorem dL_keyAt_15 : decode cL_keyAt 15 = .ok (.iconst 0, 1) := by decide +kernel
theorem dL_keyAt_16 : decode cL_keyAt 16 = .ok (.ireturn, 1) := by decide +kernel
set_option maxRecDepth 20000 in
theorem ggL_build_X7_build : GoodIn wsL_build wsX7_build := goodIn_ca (goodIn_ca (goodIn_r _ [7, 8, 9, 10, 11, 12, 13, 14, 15, 16, 17, 18, 19, 6, 20, 21, 22, 23, 24, 25, 26, 27, 28, 29, 30, 31, 32, 33, 34, 35, 36, 37, 38, 39, 40, 41, 42, 43, 44, 45, 46, 47, 48, 49, 50, 51, 52, 53, 54, 55, 56, 57, 58, 59, 60, 61, 62, 63, 64, 65, 66, 67, 68, 69, 70, 71, 72, 73, 74, 75, 76, 77, 78, 79, 80, 81, 82, 83, 84, 85, 86, 87, 88, 89, 90, 91, 92, 93, 94, 95, 96, 97, 98, 99, 100, 101, 102, 103, 104, 105, 106, 107, 108, 109, 110, 111, 112, 113, 114, 115, 116, 117, 118, 119, 120, 121, 122, 123, 124, 125, 126, 127, 128, 129, 130, 131, 132, 133, 134, 135, 136, 137, 138, 139, 140, 141, 142, 143, 144, 145, 146, 147, 148, 149, 150, 151, 152, 153, 154, 155, 156, 157, 158, 159, 160, 161, 162, 163, 164, 165, 166, 167, 168, 169, 170, 171, 172, 173, 174, 175, 176, 177, 178, 179, 180, 181, 182, 183, 184, 185, 186, 187, 188, 189, 190, 191, 192, 193, 194, 195, 196, 197, 198, 199, 200, 201, 202, 203, 204, 205, 206, 207, 208, 209, 210, 211, 212, 213, 214, 215, 216, 217, 218, 219, 220, 221, 222, 223, 224, 225, 226, 227, 228, 229, 230, 231, 232, 233, 234, 235, 236, 237, 238, 239, 240, 241, 242, 243, 244, 245, 246, 247, 248, 249, 250, 251, 252, 253, 254, 255, 256] (by decide +kernel) (by decide +kernel)) (goodIn_sub (fun _ h => List.mem_cons_of_mem _ (List.mem_append_left _ (List.mem_append_right _ h))) (by decide +kernel))) (goodIn_sub (fun _ h => List.mem_cons_of_mem _ (List.mem_append_right _ h)) (by decide +kernel))
set_option maxRecDepth 20000 in
theorem gL_build_X7_build : GoodIn wsL_build (wsV RL 33 RX7 yX7_build wsX7_build) := goodIn_app (goodIn_of _ (by decide +kernel)) ggL_build_X7_build
theorem dL_build_0 : decode cL_build 0 = .ok (.aload_n 3, 1) := by decide +kernel
theorem dL_build_1 : decode cL_build 1 = .ok (.iconst 0, 1) := by decide +kernel
theorem dL_build_2 : decode cL_build 2 = .ok (.aload_n 0, 1) := by decide +kernel
theorem dL_build_3 : decode cL_build 3 = .ok (.iload_n 1, 1) := by decide +kernel
theorem dL_build_4 : decode cL_build 4 = .ok (.iload_n 2, 1) := by decide +kernel
theorem dL_build_5 : decode cL_build 5 = .ok (.invokevirtual 33, 3) := by decide +kernel
theorem dL_build_8 : decode cL_build 8 = .ok (.i2l, 1) := by decide +kernel
theorem dL_build_9 : decode cL_build 9 = .ok (.lastore, 1) := by decide +kernel
theorem dL_build_10 : decode cL_build 10 = .ok (.goto 11, 3) := by decide +kernel
theorem dL_build_13 : decode cL_build 13 = .ok (.astore 4, 2) := by decide +kernel
theorem dL_build_15 : decode cL_build 15 = .ok (.iconst 1, 1) := by decide +kernel
theorem dL_build_16 : decode cL_build 16 = .ok (.ireturn, 1) := by decide +kernel
theorem dL_build_17 : decode cL_build 17 = .ok (.astore 4, 2) := by decide +kernel
theorem dL_build_19 : decode cL_build 19 = .ok (.iconst 2, 1) := by decide +kernel
theorem dL_build_20 : decode cL_build 20 = .ok (.ireturn, 1) := by decide +kernel
theorem dL_build_21 : decode cL_build 21 = .ok (.iconst 0, 1) := by decide +kernel
theorem dL_build_22 : decode cL_build 22 = .ok (.ireturn, 1) := by decide +kernel
set_option maxRecDepth 20000 in
theorem ggL_reopen_X7_reopen : GoodIn wsL_reopen wsX7_reopen := goodIn_ca (goodIn_r _ [6, 7, 8, 9, 10, 5, 11, 12, 13, 14, 15, 16, 17, 18, 19, 20] (by decide +kernel) (by decide +kernel)) (goodIn_sub (fun _ h => List.mem_cons_of_mem _ (List.mem_append_right _ h)) (by decide +kernel))
set_option maxRecDepth 20000 in
theorem gL_reopen_X7_reopen : GoodIn wsL_reopen (wsV RL 37 RX7 yX7_reopen wsX7_reopen) := goodIn_app (goodIn_of _ (by decide +kernel)) ggL_reopen_X7_reopen
theorem dL_reopen_0 : decode cL_reopen 0 = .ok (.aload_n 0, 1) := by decide +kernel
theorem dL_reopen_1 : decode cL_reopen 1 = .ok (.invokevirtual 37, 3) := by decide +kernel
theorem dL_reopen_4 : decode cL_reopen 4 = .ok (.goto 6, 3) := by decide +kernel
theorem dL_reopen_7 : decode cL_reopen 7 = .ok (.astore_n 1, 1) := by decide +kernel
theorem dL_reopen_8 : decode cL_reopen 8 = .ok (.iconst 1, 1) := by decide +kernel
theorem dL_reopen_9 : decode cL_reopen 9 = .ok (.ireturn, 1) := by decide +kernel
theorem dL_reopen_10 : decode cL_reopen 10 = .ok (.iconst 0, 1) := by decide +kernel
theorem dL_reopen_11 : decode cL_reopen 11 = .ok (.ireturn, 1) := by decide +kernel
set_option maxRecDepth 20000 in
theorem ggL_number_X7_number : GoodIn wsL_number wsX7_number := goodIn_ca (goodIn_ca (goodIn_r _ [7, 8, 9, 10, 6, 11, 12, 13, 14, 15, 16, 17, 18, 19, 20, 21, 22, 23, 24, 25, 26, 27, 28, 29, 30, 31, 32, 33, 34, 35, 36, 37, 38, 39, 40, 41, 42, 43, 44, 45, 46, 47, 48, 49, 50, 51, 52, 53, 54, 55, 56, 57, 58, 59, 60, 61, 62, 63, 64, 65, 66, 67, 68, 69, 70, 71, 72] (by decide +kernel) (by decide +kernel)) (goodIn_sub (fun _ h => List.mem_cons_of_mem _ (List.mem_append_left _ (List.mem_append_right _ h))) (by decide +kernel))) (goodIn_sub (fun _ h => List.mem_cons_of_mem _ (List.mem_append_right _ h)) (by decide +kernel))
set_option maxRecDepth 20000 in
theorem gL_number_X7_number : GoodIn wsL_number (wsV RL 40 RX7 yX7_number wsX7_number) := goodIn_app (goodIn_of _ (by decide +kernel)) ggL_number_X7_number
theorem dL_number_0 : decode cL_number 0 = .ok (.aload_n 2, 1) := by decide +kernel
theorem dL_number_1 : decode cL_number 1 = .ok (.iconst 0, 1) := by decide +kernel
theorem dL_number_2 : decode cL_number 2 = .ok (.aload_n 0, 1) := by decide +kernel
theorem dL_number_3 : decode cL_number 3 = .ok (.iload_n 1, 1) := by decide +kernel
theorem dL_number_4 : decode cL_number 4 = .ok (.invokevirtual 40, 3) := by decide +kernel
theorem dL_number_7 : decode cL_number 7 = .ok (.i2l, 1) := by decide +kernel
theorem dL_number_8 : decode cL_number 8 = .ok (.lastore, 1) := by decide +kernel
theorem dL_number_9 : decode cL_number 9 = .ok (.goto 9, 3) := by decide +kernel
theorem dL_number_12 : decode cL_number 12 = .ok (.astore_n 3, 1) := by decide +kernel
theorem dL_number_13 : decode cL_number 13 = .ok (.iconst 1, 1) := by decide +kernel
theorem dL_number_14 : decode cL_number 14 = .ok (.ireturn, 1) := by decide +kernel
theorem dL_number_15 : decode cL_number 15 = .ok (.astore_n 3, 1) := by decide +kernel
theorem dL_number_16 : decode cL_number 16 = .ok (.iconst 2, 1) := by decide +kernel
theorem dL_number_17 : decode cL_number 17 = .ok (.ireturn, 1) := by decide +kernel
theorem dL_number_18 : decode cL_number 18 = .ok (.iconst 0, 1) := by decide +kernel
theorem dL_number_19 : decode cL_number 19 = .ok (.ireturn, 1) := by decide +kernel
set_option maxRecDepth 20000 in
theorem ggL_find_X7_find : GoodIn wsL_find wsX7_find := goodIn_ca (goodIn_ca (goodIn_r _ [7, 8, 9, 6, 10, 11, 12, 13, 14, 15, 16, 17, 18, 19, 20, 21, 22, 23, 24, 25, 26, 27, 28, 29, 30, 31, 32, 33, 34, 35, 36, 37, 38, 39, 40, 41, 42, 43, 44, 45, 46, 47, 48, 49, 50, 51, 52, 53, 54, 55, 56, 57, 58, 59, 60, 61, 62, 63, 64, 65, 66, 67, 68, 69, 70, 71, 72, 73, 74, 75, 76, 77, 78, 79, 80, 81, 82, 83] (by decide +kernel) (by decide +kernel)) (goodIn_sub (fun _ h => List.mem_cons_of_mem _ (List.mem_append_left _ (List.mem_append_right _ h))) (by decide +kernel))) (goodIn_sub (fun _ h => List.mem_cons_of_mem _ (List.mem_append_right _ h)) (by decide +kernel))
set_option maxRecDepth 20000 in
theorem gL_find_X7_find : GoodIn wsL_find (wsV RL 43 RX7 yX7_find wsX7_find) := goodIn_app (goodIn_of _ (by decide +kernel)) ggL_find_X7_find
theorem dL_find_0 : decode cL_find 0 = .ok (.aload_n 2, 1) := by decide +kernel
theorem dL_find_1 : decode cL_find 1 = .ok (.iconst 0, 1) := by decide +kernel
theorem dL_find_2 : decode cL_find 2 = .ok (.aload_n 0, 1) := by decide +kernel
theorem dL_find_3 : decode cL_find 3 = .ok (.iload_n 1, 1) := by decide +kernel
theorem dL_find_4 : decode cL_find 4 = .ok (.invokevirtual 43, 3) := by decide +kernel
theorem dL_find_7 : decode cL_find 7 = .ok (.i2l, 1) := by decide +kernel
theorem dL_find_8 : decode cL_find 8 = .ok (.lastore, 1) := by decide +kernel
theorem dL_find_9 : decode cL_find 9 = .ok (.goto 9, 3) := by decide +kernel
theorem dL_find_12 : decode cL_find 12 = .ok (.astore_n 3, 1) := by decide +kernel
theorem dL_find_13 : decode cL_find 13 = .ok (.iconst 1, 1) := by decide +kernel
theorem dL_find_14 : decode cL_find 14 = .ok (.ireturn, 1) := by decide +kernel
theorem dL_find_15 : decode cL_find 15 = .ok (.astore_n 3, 1) := by decide +kernel
theorem dL_find_16 : decode cL_find 16 = .ok (.iconst 2, 1) := by decide +kernel
theorem dL_find_17 : decode cL_find 17 = .ok (.ireturn, 1) := by decide +kernel
theorem dL_find_18 : decode cL_find 18 = .ok (.iconst 0, 1) := by decide +kernel
theorem dL_find_19 : decode cL_find 19 = .ok (.ireturn, 1) := by decide +kernel
set_option maxRecDepth 20000 in
theorem ggL_strangers_X7_strangers : GoodIn wsL_strangers wsX7_strangers := goodIn_ca (goodIn_ca (goodIn_r _ [7, 8, 9, 10, 11, 6, 12, 13, 14, 15, 16, 17, 18, 19, 20, 21, 22, 23, 24, 25, 26, 27, 28, 29, 30, 31, 32, 33, 34, 35, 36, 37, 38, 39, 40, 41, 42, 43, 44, 45, 46, 47, 48, 49, 50, 51, 52, 53, 54, 55, 56, 57, 58, 59, 60, 61, 62, 63, 64, 65, 66, 67, 68, 69, 70, 71, 72, 73, 74, 75, 76, 77, 78, 79, 80, 81, 82, 83, 84, 85, 86, 87, 88, 89, 90, 91, 92, 93, 94, 95] (by decide +kernel) (by decide +kernel)) (goodIn_sub (fun _ h => List.mem_cons_of_mem _ (List.mem_append_left _ (List.mem_append_right _ h))) (by decide +kernel))) (goodIn_sub (fun _ h => List.mem_cons_of_mem _ (List.mem_append_right _ h)) (by decide +kernel))
set_option maxRecDepth 20000 in
theorem gL_strangers_X7_strangers : GoodIn wsL_strangers (wsV RL 46 RX7 yX7_strangers wsX7_strangers) := goodIn_app (goodIn_of _ (by decide +kernel)) ggL_strangers_X7_strangers
theorem dL_strangers_0 : decode cL_strangers 0 = .ok (.aload_n 3, 1) := by decide +kernel
theorem dL_strangers_1 : decode cL_strangers 1 = .ok (.iconst 0, 1) := by decide +kernel
theorem dL_strangers_2 : decode cL_strangers 2 = .ok (.aload_n 0, 1) := by decide +kernel
theorem dL_strangers_3 : decode cL_strangers 3 = .ok (.iload_n 1, 1) := by decide +kernel
theorem dL_strangers_4 : decode cL_strangers 4 = .ok (.iload_n 2, 1) := by decide +kernel
theorem dL_strangers_5 : decode cL_strangers 5 = .ok (.invokevirtual 46, 3) := by decide +kernel
theorem dL_strangers_8 : decode cL_strangers 8 = .ok (.i2l, 1) := by decide +kernel
theorem dL_strangers_9 : decode cL_strangers 9 = .ok (.lastore, 1) := by decide +kernel
theorem dL_strangers_10 : decode cL_strangers 10 = .ok (.goto 11, 3) := by decide +kernel
theorem dL_strangers_13 : decode cL_strangers 13 = .ok (.astore 4, 2) := by decide +kernel
theorem dL_strangers_15 : decode cL_strangers 15 = .ok (.iconst 1, 1) := by decide +kernel
theorem dL_strangers_16 : decode cL_strangers 16 = .ok (.ireturn, 1) := by decide +kernel
theorem dL_strangers_17 : decode cL_strangers 17 = .ok (.astore 4, 2) := by decide +kernel
theorem dL_strangers_19 : decode cL_strangers 19 = .ok (.iconst 2, 1) := by decide +kernel
theorem dL_strangers_20 : decode cL_strangers 20 = .ok (.ireturn, 1) := by decide +kernel
theorem dL_strangers_21 : decode cL_strangers 21 = .ok (.iconst 0, 1) := by decide +kernel
theorem dL_strangers_22 : decode cL_strangers 22 = .ok (.ireturn, 1) := by decide +kernel
set_option maxRecDepth 20000 in
theorem ggL_keyOf_X7_keyOf : GoodIn wsL_keyOf wsX7_keyOf := goodIn_ca (goodIn_ca (goodIn_r _ [7, 8, 9, 10, 11, 6, 12, 13, 14, 15, 16, 17, 18, 19, 20, 21, 22, 23, 24, 25, 26, 27, 28, 29, 30, 31, 32, 33, 34, 35, 36, 37, 38, 39, 40, 41, 42, 43, 44, 45, 46, 47, 48, 49, 50, 51, 52, 53, 54] (by decide +kernel) (by decide +kernel)) (goodIn_sub (fun _ h => List.mem_cons_of_mem _ (List.mem_append_left _ (List.mem_append_right _ h))) (by decide +kernel))) (goodIn_sub (fun _ h => List.mem_cons_of_mem _ (List.mem_append_right _ h)) (by decide +kernel))
set_option maxRecDepth 20000 in
theorem gL_keyOf_X7_keyOf : GoodIn wsL_keyOf (wsV RL 49 RX7 yX7_keyOf wsX7_keyOf) := goodIn_app (goodIn_of _ (by decide +kernel)) ggL_keyOf_X7_keyOf
theorem dL_keyOf_0 : decode cL_keyOf 0 = .ok (.aload_n 2, 1) := by decide +kernel
theorem dL_keyOf_1 : decode cL_keyOf 1 = .ok (.iconst 0, 1) := by decide +kernel
theorem dL_keyOf_2 : decode cL_keyOf 2 = .ok (.aload_n 0, 1) := by decide +kernel
theorem dL_keyOf_3 : decode cL_keyOf 3 = .ok (.iload_n 1, 1) := by decide +kernel
theorem dL_keyOf_4 : decode cL_keyOf 4 = .ok (.invokevirtual 49, 3) := by decide +kernel
theorem dL_keyOf_7 : decode cL_keyOf 7 = .ok (.i2l, 1) := by decide +kernel
theorem dL_keyOf_8 : decode cL_keyOf 8 = .ok (.lastore, 1) := by decide +kernel
theorem dL_keyOf_9 : decode cL_keyOf 9 = .ok (.goto 9, 3) := by decide +kernel
theorem dL_keyOf_12 : decode cL_keyOf 12 = .ok (.astore_n 3, 1) := by decide +kernel
theorem dL_keyOf_13 : decode cL_keyOf 13 = .ok (.iconst 1, 1) := by decide +kernel
theorem dL_keyOf_14 : decode cL_keyOf 14 = .ok (.ireturn, 1) := by decide +kernel
theorem dL_keyOf_15 : decode cL_keyOf 15 = .ok (.astore_n 3, 1) := by decide +kernel
theorem dL_keyOf_16 : decode cL_keyOf 16 = .ok (.iconst 2, 1) := by decide +kernel
theorem dL_keyOf_17 : decode cL_keyOf 17 = .ok (.ireturn, 1) := by decide +kernel
theorem dL_keyOf_18 : decode cL_keyOf 18 = .ok (.iconst 0, 1) := by decide +kernel
theorem dL_keyOf_19 : decode cL_keyOf 19 = .ok (.ireturn, 1) := by decide +kernel
set_option maxRecDepth 20000 in
theorem ggL_fingerprint_X7_fingerprint : GoodIn wsL_fingerprint wsX7_fingerprint := goodIn_ca (goodIn_ca (goodIn_r _ [7, 8, 9, 10, 11, 12, 6, 13, 14, 15, 16, 17, 18, 19, 20, 21, 22, 23, 24, 25, 26, 27, 28, 29, 30, 31, 32, 33, 34, 35, 36] (by decide +kernel) (by decide +kernel)) (goodIn_sub (fun _ h => List.mem_cons_of_mem _ (List.mem_append_left _ (List.mem_append_right _ h))) (by decide +kernel))) (goodIn_sub (fun _ h => List.mem_cons_of_mem _ (List.mem_append_right _ h)) (by decide +kernel))
set_option maxRecDepth 20000 in
theorem gL_fingerprint_X7_fingerprint : GoodIn wsL_fingerprint (wsV RL 52 RX7 yX7_fingerprint wsX7_fingerprint) := goodIn_app (goodIn_of _ (by decide +kernel)) ggL_fingerprint_X7_fingerprint
theorem dL_fingerprint_0 : decode cL_fingerprint 0 = .ok (.aload_n 2, 1) := by decide +kernel
theorem dL_fingerprint_1 : decode cL_fingerprint 1 = .ok (.iconst 0, 1) := by decide +kernel
theorem dL_fingerprint_2 : decode cL_fingerprint 2 = .ok (.aload_n 0, 1) := by decide +kernel
theorem dL_fingerprint_3 : decode cL_fingerprint 3 = .ok (.iload_n 1, 1) := by decide +kernel
theorem dL_fingerprint_4 : decode cL_fingerprint 4 = .ok (.invokevirtual 52, 3) := by decide +kernel
theorem dL_fingerprint_7 : decode cL_fingerprint 7 = .ok (.i2l, 1) := by decide +kernel
theorem dL_fingerprint_8 : decode cL_fingerprint 8 = .ok (.lastore, 1) := by decide +kernel
theorem dL_fingerprint_9 : decode cL_fingerprint 9 = .ok (.goto 9, 3) := by decide +kernel
theorem dL_fingerprint_12 : decode cL_fingerprint 12 = .ok (.astore_n 3, 1) := by decide +kernel
theorem dL_fingerprint_13 : decode cL_fingerprint 13 = .ok (.iconst 1, 1) := by decide +kernel
theorem dL_fingerprint_14 : decode cL_fingerprint 14 = .ok (.ireturn, 1) := by decide +kernel
theorem dL_fingerprint_15 : decode cL_fingerprint 15 = .ok (.astore_n 3, 1) := by decide +kernel
theorem dL_fingerprint_16 : decode cL_fingerprint 16 = .ok (.iconst 2, 1) := by decide +kernel
theorem dL_fingerprint_17 : decode cL_fingerprint 17 = .ok (.ireturn, 1) := by decide +kernel
theorem dL_fingerprint_18 : decode cL_fingerprint 18 = .ok (.iconst 0, 1) := by decide +kernel
theorem dL_fingerprint_19 : decode cL_fingerprint 19 = .ok (.ireturn, 1) := by decide +kernel
set_option maxRecDepth 20000 in
theorem ggL_seed_X7_seed : GoodIn wsL_seed wsX7_seed := goodIn_ca (goodIn_r _ [6, 7, 8, 9, 10, 5, 11, 12, 13, 14, 15, 16, 17, 18, 19, 20, 21, 22, 23, 24, 25, 26, 27, 28, 29, 30] (by decide +kernel) (by decide +kernel)) (goodIn_sub (fun _ h => List.mem_cons_of_mem _ (List.mem_append_right _ h)) (by decide +kernel))
set_option maxRecDepth 20000 in
theorem gL_seed_X7_seed : GoodIn wsL_seed (wsV RL 55 RX7 yX7_seed wsX7_seed) := goodIn_app (goodIn_of _ (by decide +kernel)) ggL_seed_X7_seed
theorem dL_seed_0 : decode cL_seed 0 = .ok (.aload_n 1, 1) := by decide +kernel
theorem dL_seed_1 : decode cL_seed 1 = .ok (.iconst 0, 1) := by decide +kernel
theorem dL_seed_2 : decode cL_seed 2 = .ok (.aload_n 0, 1) := by decide +kernel
theorem dL_seed_3 : decode cL_seed 3 = .ok (.invokevirtual 55, 3) := by decide +kernel
theorem dL_seed_6 : decode cL_seed 6 = .ok (.i2l, 1) := by decide +kernel
theorem dL_seed_7 : decode cL_seed 7 = .ok (.lastore, 1) := by decide +kernel
theorem dL_seed_8 : decode cL_seed 8 = .ok (.goto 6, 3) := by decide +kernel
theorem dL_seed_11 : decode cL_seed 11 = .ok (.astore_n 2, 1) := by decide +kernel
theorem dL_seed_12 : decode cL_seed 12 = .ok (.iconst 1, 1) := by decide +kernel
theorem dL_seed_13 : decode cL_seed 13 = .ok (.ireturn, 1) := by decide +kernel
theorem dL_seed_14 : decode cL_seed 14 = .ok (.iconst 0, 1) := by decide +kernel
theorem dL_seed_15 : decode cL_seed 15 = .ok (.ireturn, 1) := by decide +kernel
set_option maxRecDepth 20000 in
theorem ggL_buckets_X7_buckets : GoodIn wsL_buckets wsX7_buckets := goodIn_ca (goodIn_r _ [6, 7, 8, 9, 10, 5, 11, 12, 13, 14, 15, 16, 17, 18, 19, 20, 21, 22, 23, 24, 25, 26, 27, 28, 29, 30] (by decide +kernel) (by decide +kernel)) (goodIn_sub (fun _ h => List.mem_cons_of_mem _ (List.mem_append_right _ h)) (by decide +kernel))
set_option maxRecDepth 20000 in
theorem gL_buckets_X7_buckets : GoodIn wsL_buckets (wsV RL 59 RX7 yX7_buckets wsX7_buckets) := goodIn_app (goodIn_of _ (by decide +kernel)) ggL_buckets_X7_buckets
theorem dL_buckets_0 : decode cL_buckets 0 = .ok (.aload_n 1, 1) := by decide +kernel
theorem dL_buckets_1 : decode cL_buckets 1 = .ok (.iconst 0, 1) := by decide +kernel
theorem dL_buckets_2 : decode cL_buckets 2 = .ok (.aload_n 0, 1) := by decide +kernel
theorem dL_buckets_3 : decode cL_buckets 3 = .ok (.invokevirtual 59, 3) := by decide +kernel
theorem dL_buckets_6 : decode cL_buckets 6 = .ok (.i2l, 1) := by decide +kernel
theorem dL_buckets_7 : decode cL_buckets 7 = .ok (.lastore, 1) := by decide +kernel
theorem dL_buckets_8 : decode cL_buckets 8 = .ok (.goto 6, 3) := by decide +kernel
theorem dL_buckets_11 : decode cL_buckets 11 = .ok (.astore_n 2, 1) := by decide +kernel
theorem dL_buckets_12 : decode cL_buckets 12 = .ok (.iconst 1, 1) := by decide +kernel
theorem dL_buckets_13 : decode cL_buckets 13 = .ok (.ireturn, 1) := by decide +kernel
theorem dL_buckets_14 : decode cL_buckets 14 = .ok (.iconst 0, 1) := by decide +kernel
theorem dL_buckets_15 : decode cL_buckets 15 = .ok (.ireturn, 1) := by decide +kernel
set_option maxRecDepth 20000 in
theorem ggL_inBucket_X7_inBucket : GoodIn wsL_inBucket wsX7_inBucket := goodIn_ca (goodIn_ca (goodIn_r _ [7, 8, 9, 10, 11, 6, 12, 13, 14, 15, 16, 17, 18, 19, 20, 21, 22, 23, 24, 25, 26, 27, 28, 29, 30, 31, 32, 33, 34, 35, 36, 37, 38, 39, 40, 41, 42, 43, 44, 45, 46, 47, 48, 49, 50, 51, 52, 53, 54, 55, 56, 57, 58, 59, 60] (by decide +kernel) (by decide +kernel)) (goodIn_sub (fun _ h => List.mem_cons_of_mem _ (List.mem_append_left _ (List.mem_append_right _ h))) (by decide +kernel))) (goodIn_sub (fun _ h => List.mem_cons_of_mem _ (List.mem_append_right _ h)) (by decide +kernel))
set_option maxRecDepth 20000 in
theorem gL_inBucket_X7_inBucket : GoodIn wsL_inBucket (wsV RL 62 RX7 yX7_inBucket wsX7_inBucket) := goodIn_app (goodIn_of _ (by decide +kernel)) ggL_inBucket_X7_inBucket
theorem dL_inBucket_0 : decode cL_inBucket 0 = .ok (.aload_n 2, 1) := by decide +kernel
theorem dL_inBucket_1 : decode cL_inBucket 1 = .ok (.iconst 0, 1) := by decide +kernel
theorem dL_inBucket_2 : decode cL_inBucket 2 = .ok (.aload_n 0, 1) := by decide +kernel
theorem dL_inBucket_3 : decode cL_inBucket 3 = .ok (.iload_n 1, 1) := by decide +kernel
theorem dL_inBucket_4 : decode cL_inBucket 4 = .ok (.invokevirtual 62, 3) := by decide +kernel
theorem dL_inBucket_7 : decode cL_inBucket 7 = .ok (.i2l, 1) := by decide +kernel
theorem dL_inBucket_8 : decode cL_inBucket 8 = .ok (.lastore, 1) := by decide +kernel
theorem dL_inBucket_9 : decode cL_inBucket 9 = .ok (.goto 9, 3) := by decide +kernel
theorem dL_inBucket_12 : decode cL_inBucket 12 = .ok (.astore_n 3, 1) := by decide +kernel
theorem dL_inBucket_13 : decode cL_inBucket 13 = .ok (.iconst 1, 1) := by decide +kernel
theorem dL_inBucket_14 : decode cL_inBucket 14 = .ok (.ireturn, 1) := by decide +kernel
theorem dL_inBucket_15 : decode cL_inBucket 15 = .ok (.astore_n 3, 1) := by decide +kernel
theorem dL_inBucket_16 : decode cL_inBucket 16 = .ok (.iconst 2, 1) := by decide +kernel
theorem dL_inBucket_17 : decode cL_inBucket 17 = .ok (.ireturn, 1) := by decide +kernel
theorem dL_inBucket_18 : decode cL_inBucket 18 = .ok (.iconst 0, 1) := by decide +kernel
theorem dL_inBucket_19 : decode cL_inBucket 19 = .ok (.ireturn, 1) := by decide +kernel
set_option maxRecDepth 20000 in
theorem ggL_displacement_X7_displacement : GoodIn wsL_displacement wsX7_displacement := goodIn_ca (goodIn_ca (goodIn_r _ [7, 8, 9, 10, 11, 6, 12, 13, 14, 15, 16, 17, 18, 19, 20, 21, 22, 23, 24, 25, 26, 27, 28, 29, 30, 31, 32, 33, 34, 35, 36, 37, 38, 39, 40, 41, 42] (by decide +kernel) (by decide +kernel)) (goodIn_sub (fun _ h => List.mem_cons_of_mem _ (List.mem_append_left _ (List.mem_append_right _ h))) (by decide +kernel))) (goodIn_sub (fun _ h => List.mem_cons_of_mem _ (List.mem_append_right _ h)) (by decide +kernel))
set_option maxRecDepth 20000 in
theorem gL_displacement_X7_displacement : GoodIn wsL_displacement (wsV RL 65 RX7 yX7_displacement wsX7_displacement) := goodIn_app (goodIn_of _ (by decide +kernel)) ggL_displacement_X7_displacement
theorem dL_displacement_0 : decode cL_displacement 0 = .ok (.aload_n 2, 1) := by decide +kernel
theorem dL_displacement_1 : decode cL_displacement 1 = .ok (.iconst 0, 1) := by decide +kernel
theorem dL_displacement_2 : decode cL_displacement 2 = .ok (.aload_n 0, 1) := by decide +kernel
theorem dL_displacement_3 : decode cL_displacement 3 = .ok (.iload_n 1, 1) := by decide +kernel
theorem dL_displacement_4 : decode cL_displacement 4 = .ok (.invokevirtual 65, 3) := by decide +kernel
theorem dL_displacement_7 : decode cL_displacement 7 = .ok (.i2l, 1) := by decide +kernel
theorem dL_displacement_8 : decode cL_displacement 8 = .ok (.lastore, 1) := by decide +kernel
theorem dL_displacement_9 : decode cL_displacement 9 = .ok (.goto 9, 3) := by decide +kernel
theorem dL_displacement_12 : decode cL_displacement 12 = .ok (.astore_n 3, 1) := by decide +kernel
theorem dL_displacement_13 : decode cL_displacement 13 = .ok (.iconst 1, 1) := by decide +kernel
theorem dL_displacement_14 : decode cL_displacement 14 = .ok (.ireturn, 1) := by decide +kernel
theorem dL_displacement_15 : decode cL_displacement 15 = .ok (.astore_n 3, 1) := by decide +kernel
theorem dL_displacement_16 : decode cL_displacement 16 = .ok (.iconst 2, 1) := by decide +kernel
theorem dL_displacement_17 : decode cL_displacement 17 = .ok (.ireturn, 1) := by decide +kernel
theorem dL_displacement_18 : decode cL_displacement 18 = .ok (.iconst 0, 1) := by decide +kernel
theorem dL_displacement_19 : decode cL_displacement 19 = .ok (.ireturn, 1) := by decide +kernel
set_option maxRecDepth 20000 in
theorem ggL_width_X7_width : GoodIn wsL_width wsX7_width := goodIn_ca (goodIn_r _ [6, 7, 8, 9, 10, 5, 11, 12, 13, 14, 15, 16, 17, 18, 19, 20, 21, 22, 23, 24] (by decide +kernel) (by decide +kernel)) (goodIn_sub (fun _ h => List.mem_cons_of_mem _ (List.mem_append_right _ h)) (by decide +kernel))
set_option maxRecDepth 20000 in
theorem gL_width_X7_width : GoodIn wsL_width (wsV RL 68 RX7 yX7_width wsX7_width) := goodIn_app (goodIn_of _ (by decide +kernel)) ggL_width_X7_width
theorem dL_width_0 : decode cL_width 0 = .ok (.aload_n 1, 1) := by decide +kernel
theorem dL_width_1 : decode cL_width 1 = .ok (.iconst 0, 1) := by decide +kernel
theorem dL_width_2 : decode cL_width 2 = .ok (.aload_n 0, 1) := by decide +kernel
theorem dL_width_3 : decode cL_width 3 = .ok (.invokevirtual 68, 3) := by decide +kernel
theorem dL_width_6 : decode cL_width 6 = .ok (.i2l, 1) := by decide +kernel
theorem dL_width_7 : decode cL_width 7 = .ok (.lastore, 1) := by decide +kernel
theorem dL_width_8 : decode cL_width 8 = .ok (.goto 6, 3) := by decide +kernel
theorem dL_width_11 : decode cL_width 11 = .ok (.astore_n 2, 1) := by decide +kernel
theorem dL_width_12 : decode cL_width 12 = .ok (.iconst 1, 1) := by decide +kernel
theorem dL_width_13 : decode cL_width 13 = .ok (.ireturn, 1) := by decide +kernel
theorem dL_width_14 : decode cL_width 14 = .ok (.iconst 0, 1) := by decide +kernel
theorem dL_width_15 : decode cL_width 15 = .ok (.ireturn, 1) := by decide +kernel
set_option maxRecDepth 20000 in
theorem ggL_word_X7_word : GoodIn wsL_word wsX7_word := goodIn_ca (goodIn_ca (goodIn_r _ [7, 8, 9, 10, 11, 6, 12, 13, 14, 15, 16, 17, 18, 19, 20, 21, 22, 23, 24, 25, 26, 27, 28, 29, 30, 31, 32, 33, 34, 35] (by decide +kernel) (by decide +kernel)) (goodIn_sub (fun _ h => List.mem_cons_of_mem _ (List.mem_append_left _ (List.mem_append_right _ h))) (by decide +kernel))) (goodIn_sub (fun _ h => List.mem_cons_of_mem _ (List.mem_append_right _ h)) (by decide +kernel))
set_option maxRecDepth 20000 in
theorem gL_word_X7_word : GoodIn wsL_word (wsV RL 71 RX7 yX7_word wsX7_word) := goodIn_app (goodIn_of _ (by decide +kernel)) ggL_word_X7_word
theorem dL_word_0 : decode cL_word 0 = .ok (.aload_n 2, 1) := by decide +kernel
theorem dL_word_1 : decode cL_word 1 = .ok (.iconst 0, 1) := by decide +kernel
theorem dL_word_2 : decode cL_word 2 = .ok (.aload_n 0, 1) := by decide +kernel
theorem dL_word_3 : decode cL_word 3 = .ok (.iload_n 1, 1) := by decide +kernel
theorem dL_word_4 : decode cL_word 4 = .ok (.invokevirtual 71, 3) := by decide +kernel
theorem dL_word_7 : decode cL_word 7 = .ok (.lastore, 1) := by decide +kernel
theorem dL_word_8 : decode cL_word 8 = .ok (.goto 9, 3) := by decide +kernel
theorem dL_word_11 : decode cL_word 11 = .ok (.astore_n 3, 1) := by decide +kernel
theorem dL_word_12 : decode cL_word 12 = .ok (.iconst 1, 1) := by decide +kernel
theorem dL_word_13 : decode cL_word 13 = .ok (.ireturn, 1) := by decide +kernel
theorem dL_word_14 : decode cL_word 14 = .ok (.astore_n 3, 1) := by decide +kernel
theorem dL_word_15 : decode cL_word 15 = .ok (.iconst 2, 1) := by decide +kernel
theorem dL_word_16 : decode cL_word 16 = .ok (.ireturn, 1) := by decide +kernel
theorem dL_word_17 : decode cL_word 17 = .ok (.iconst 0, 1) := by decide +kernel
theorem dL_word_18 : decode cL_word 18 = .ok (.ireturn, 1) := by decide +kernel
set_option maxRecDepth 20000 in
theorem ggL_byGraph_X7_byGraph : GoodIn wsL_byGraph wsX7_byGraph := goodIn_ca (goodIn_ca (goodIn_r _ [7, 8, 9, 10, 6, 11, 12, 13, 14, 15, 16, 17, 18, 19, 20, 21, 22, 23, 24, 25, 26, 27, 28, 29, 30, 31, 32, 33, 34, 35, 36, 37, 38, 39, 40, 41, 42, 43, 44, 45, 46, 47, 48, 49, 50, 51, 52, 53, 54, 55, 56, 57, 58, 59, 60, 61, 62, 63, 64, 65, 66] (by decide +kernel) (by decide +kernel)) (goodIn_sub (fun _ h => List.mem_cons_of_mem _ (List.mem_append_left _ (List.mem_append_right _ h))) (by decide +kernel))) (goodIn_sub (fun _ h => List.mem_cons_of_mem _ (List.mem_append_right _ h)) (by decide +kernel))
set_option maxRecDepth 20000 in
theorem gL_byGraph_X7_byGraph : GoodIn wsL_byGraph (wsV RL 75 RX7 yX7_byGraph wsX7_byGraph) := goodIn_app (goodIn_of _ (by decide +kernel)) ggL_byGraph_X7_byGraph
theorem dL_byGraph_0 : decode cL_byGraph 0 = .ok (.aload_n 2, 1) := by decide +kernel
theorem dL_byGraph_1 : decode cL_byGraph 1 = .ok (.iconst 0, 1) := by decide +kernel
theorem dL_byGraph_2 : decode cL_byGraph 2 = .ok (.aload_n 0, 1) := by decide +kernel
theorem dL_byGraph_3 : decode cL_byGraph 3 = .ok (.iload_n 1, 1) := by decide +kernel
theorem dL_byGraph_4 : decode cL_byGraph 4 = .ok (.invokevirtual 75, 3) := by decide +kernel
theorem dL_byGraph_7 : decode cL_byGraph 7 = .ok (.i2l, 1) := by decide +kernel
theorem dL_byGraph_8 : decode cL_byGraph 8 = .ok (.lastore, 1) := by decide +kernel
theorem dL_byGraph_9 : decode cL_byGraph 9 = .ok (.goto 9, 3) := by decide +kernel
theorem dL_byGraph_12 : decode cL_byGraph 12 = .ok (.astore_n 3, 1) := by decide +kernel
theorem dL_byGraph_13 : decode cL_byGraph 13 = .ok (.iconst 1, 1) := by decide +kernel
theorem dL_byGraph_14 : decode cL_byGraph 14 = .ok (.ireturn, 1) := by decide +kernel
theorem dL_byGraph_15 : decode cL_byGraph 15 = .ok (.astore_n 3, 1) := by decide +kernel
theorem dL_byGraph_16 : decode cL_byGraph 16 = .ok (.iconst 2, 1) := by decide +kernel
theorem dL_byGraph_17 : decode cL_byGraph 17 = .ok (.ireturn, 1) := by decide +kernel
theorem dL_byGraph_18 : decode cL_byGraph 18 = .ok (.iconst 0, 1) := by decide +kernel
theorem dL_byGraph_19 : decode cL_byGraph 19 = .ok (.ireturn, 1) := by decide +kernel
set_option maxRecDepth 20000 in
theorem ggL_graphSeed_X7_graphSeed : GoodIn wsL_graphSeed wsX7_graphSeed := goodIn_ca (goodIn_r _ [6, 7, 8, 9, 10, 5, 11, 12, 13, 14, 15, 16, 17, 18, 19, 20, 21, 22, 23, 24, 25, 26, 27, 28, 29] (by decide +kernel) (by decide +kernel)) (goodIn_sub (fun _ h => List.mem_cons_of_mem _ (List.mem_append_right _ h)) (by decide +kernel))
set_option maxRecDepth 20000 in
theorem gL_graphSeed_X7_graphSeed : GoodIn wsL_graphSeed (wsV RL 78 RX7 yX7_graphSeed wsX7_graphSeed) := goodIn_app (goodIn_of _ (by decide +kernel)) ggL_graphSeed_X7_graphSeed
theorem dL_graphSeed_0 : decode cL_graphSeed 0 = .ok (.aload_n 1, 1) := by decide +kernel
theorem dL_graphSeed_1 : decode cL_graphSeed 1 = .ok (.iconst 0, 1) := by decide +kernel
theorem dL_graphSeed_2 : decode cL_graphSeed 2 = .ok (.aload_n 0, 1) := by decide +kernel
theorem dL_graphSeed_3 : decode cL_graphSeed 3 = .ok (.invokevirtual 78, 3) := by decide +kernel
theorem dL_graphSeed_6 : decode cL_graphSeed 6 = .ok (.i2l, 1) := by decide +kernel
theorem dL_graphSeed_7 : decode cL_graphSeed 7 = .ok (.lastore, 1) := by decide +kernel
theorem dL_graphSeed_8 : decode cL_graphSeed 8 = .ok (.goto 6, 3) := by decide +kernel
theorem dL_graphSeed_11 : decode cL_graphSeed 11 = .ok (.astore_n 2, 1) := by decide +kernel
theorem dL_graphSeed_12 : decode cL_graphSeed 12 = .ok (.iconst 1, 1) := by decide +kernel
theorem dL_graphSeed_13 : decode cL_graphSeed 13 = .ok (.ireturn, 1) := by decide +kernel
theorem dL_graphSeed_14 : decode cL_graphSeed 14 = .ok (.iconst 0, 1) := by decide +kernel
theorem dL_graphSeed_15 : decode cL_graphSeed 15 = .ok (.ireturn, 1) := by decide +kernel
set_option maxRecDepth 20000 in
theorem ggL_valueOf_X7_valueOf : GoodIn wsL_valueOf wsX7_valueOf := goodIn_ca (goodIn_ca (goodIn_r _ [7, 8, 9, 10, 11, 6, 12, 13, 14, 15, 16, 17, 18, 19, 20, 21, 22, 23, 24, 25, 26, 27, 28, 29, 30, 31, 32, 33, 34, 35, 36, 37, 38, 39, 40, 41] (by decide +kernel) (by decide +kernel)) (goodIn_sub (fun _ h => List.mem_cons_of_mem _ (List.mem_append_left _ (List.mem_append_right _ h))) (by decide +kernel))) (goodIn_sub (fun _ h => List.mem_cons_of_mem _ (List.mem_append_right _ h)) (by decide +kernel))
set_option maxRecDepth 20000 in
theorem gL_valueOf_X7_valueOf : GoodIn wsL_valueOf (wsV RL 81 RX7 yX7_valueOf wsX7_valueOf) := goodIn_app (goodIn_of _ (by decide +kernel)) ggL_valueOf_X7_valueOf
theorem dL_valueOf_0 : decode cL_valueOf 0 = .ok (.aload_n 2, 1) := by decide +kernel
theorem dL_valueOf_1 : decode cL_valueOf 1 = .ok (.iconst 0, 1) := by decide +kernel
theorem dL_valueOf_2 : decode cL_valueOf 2 = .ok (.aload_n 0, 1) := by decide +kernel
theorem dL_valueOf_3 : decode cL_valueOf 3 = .ok (.iload_n 1, 1) := by decide +kernel
theorem dL_valueOf_4 : decode cL_valueOf 4 = .ok (.invokevirtual 81, 3) := by decide +kernel
theorem dL_valueOf_7 : decode cL_valueOf 7 = .ok (.i2l, 1) := by decide +kernel
theorem dL_valueOf_8 : decode cL_valueOf 8 = .ok (.lastore, 1) := by decide +kernel
theorem dL_valueOf_9 : decode cL_valueOf 9 = .ok (.goto 9, 3) := by decide +kernel
theorem dL_valueOf_12 : decode cL_valueOf 12 = .ok (.astore_n 3, 1) := by decide +kernel
theorem dL_valueOf_13 : decode cL_valueOf 13 = .ok (.iconst 1, 1) := by decide +kernel
theorem dL_valueOf_14 : decode cL_valueOf 14 = .ok (.ireturn, 1) := by decide +kernel
theorem dL_valueOf_15 : decode cL_valueOf 15 = .ok (.astore_n 3, 1) := by decide +kernel
theorem dL_valueOf_16 : decode cL_valueOf 16 = .ok (.iconst 2, 1) := by decide +kernel
theorem dL_valueOf_17 : decode cL_valueOf 17 = .ok (.ireturn, 1) := by decide +kernel
theorem dL_valueOf_18 : decode cL_valueOf 18 = .ok (.iconst 0, 1) := by decide +kernel
theorem dL_valueOf_19 : decode cL_valueOf 19 = .ok (.ireturn, 1) := by decide +kernel
set_option maxRecDepth 20000 in
theorem ggL_law_X7_init : GoodIn wsL_law wsX7_init := goodIn_r _ [9, 10, 11, 12, 13, 14, 15, 16, 17, 18, 19, 20, 21, 22, 23, 24, 25, 26, 27, 28, 29, 30, 31, 32, 33, 34, 35, 36, 37, 38, 39, 40, 41, 42, 43, 44, 45, 46, 47, 48, 49, 50, 51, 52, 53, 54, 55, 56, 57, 58, 59, 60, 61, 62, 63, 64, 65, 66, 67, 68, 69, 6, 70, 71, 72, 73, 74, 75, 76, 77, 78, 79, 726, 727, 699, 700, 701, 702, 703, 704, 705, 728, 729, 730, 731, 732, 733, 734, 735, 736, 737, 738, 739, 740, 741, 742, 743, 744, 745, 746, 747, 748, 749, 750, 751, 752, 753] (by decide +kernel) (by decide +kernel)
set_option maxRecDepth 20000 in
theorem gL_law_X7_init : GoodIn wsL_law (wsX7_init) := ggL_law_X7_init
set_option maxRecDepth 20000 in
theorem ggL_law_X8_init : GoodIn wsL_law wsX8_init := goodIn_r _ [82, 83, 11, 12, 45, 84, 85, 86, 87, 88, 89, 90, 91, 6, 92, 93, 94, 95, 706, 707, 708, 709, 710, 711, 712, 713, 714, 715, 716, 717, 718, 719, 720, 721, 722, 723, 724, 725] (by decide +kernel) (by decide +kernel)
set_option maxRecDepth 20000 in
theorem gL_law_X8_init : GoodIn wsL_law (wsX8_init) := ggL_law_X8_init
set_option maxRecDepth 20000 in
theorem ggL_law_L_add : GoodIn wsL_law wsL_add := goodIn_ca (goodIn_ca (goodIn_r _ [99, 100, 101, 102, 103, 104, 2, 105, 106, 107, 16, 108, 109, 110, 111, 112, 113, 114, 115, 116, 117, 118, 119, 15, 120, 121, 122, 37, 123, 124, 125, 126, 127, 31, 128, 129, 46, 130, 131, 132, 133, 134, 135, 136, 137, 138, 139, 699, 700, 701, 702, 703, 704, 705, 726, 727, 748] (by decide +kernel) (by decide +kernel)) (goodIn_sub (fun _ h => List.mem_append_left _ (List.mem_append_left _ (List.mem_append_right _ h))) (by decide +kernel))) (goodIn_sub (fun _ h => List.mem_append_left _ (List.mem_append_right _ h)) (by decide +kernel))
set_option maxRecDepth 20000 in
theorem gL_law_L_add : GoodIn wsL_law (va_wsS RL 88 yL_add wsL_add) := goodIn_app (goodIn_of _ (by decide +kernel)) ggL_law_L_add
