set_option maxRecDepth 20000 in
theorem gX2_assign_X6_get_n38 : GoodIn wsX2_assign (wsX6_get) := ggX2_assign_X6_get
theorem dX2_assign_0 : decode cX2_assign 0 = .ok (.aload_n 0, 1) := by decide +kernel
theorem dX2_assign_1 : decode cX2_assign 1 = .ok (.getfield 12, 3) := by decide +kernel
theorem dX2_assign_4 : decode cX2_assign 4 = .ok (.iload_n 1, 1) := by decide +kernel
theorem dX2_assign_5 : decode cX2_assign 5 = .ok (.iload_n 2, 1) := by decide +kernel
theorem dX2_assign_6 : decode cX2_assign 6 = .ok (.invokevirtual 34, 3) := by decide +kernel
theorem dX2_assign_9 : decode cX2_assign 9 = .ok (.aload_n 0, 1) := by decide +kernel
theorem dX2_assign_10 : decode cX2_assign 10 = .ok (.getfield 18, 3) := by decide +kernel
theorem dX2_assign_13 : decode cX2_assign 13 = .ok (.iload_n 2, 1) := by decide +kernel
theorem dX2_assign_14 : decode cX2_assign 14 = .ok (.aload_n 0, 1) := by decide +kernel
theorem dX2_assign_15 : decode cX2_assign 15 = .ok (.getfield 18, 3) := by decide +kernel
theorem dX2_assign_18 : decode cX2_assign 18 = .ok (.iload_n 2, 1) := by decide +kernel
theorem dX2_assign_19 : decode cX2_assign 19 = .ok (.invokevirtual 38, 3) := by decide +kernel
theorem dX2_assign_22 : decode cX2_assign 22 = .ok (.iconst 1, 1) := by decide +kernel
theorem dX2_assign_23 : decode cX2_assign 23 = .ok (.iadd, 1) := by decide +kernel
theorem dX2_assign_24 : decode cX2_assign 24 = .ok (.invokevirtual 34, 3) := by decide +kernel
theorem dX2_assign_27 : decode cX2_assign 27 = .ok (.return_, 1) := by decide +kernel
set_option maxRecDepth 20000 in
theorem ggX2_arrange_X6_get : GoodIn wsX2_arrange wsX6_get := goodIn_r _ [9, 10, 19] (by decide +kernel) (by decide +kernel)
set_option maxRecDepth 20000 in
theorem gX2_arrange_X6_get_n38 : GoodIn wsX2_arrange (wsX6_get) := ggX2_arrange_X6_get
set_option maxRecDepth 20000 in
theorem ggX2_arrange_X6_set : GoodIn wsX2_arrange wsX6_set := goodIn_r _ [13, 10, 19] (by decide +kernel) (by decide +kernel)
set_option maxRecDepth 20000 in
theorem gX2_arrange_X6_set_n34 : GoodIn wsX2_arrange (wsX6_set) := ggX2_arrange_X6_set
theorem dX2_arrange_0 : decode cX2_arrange 0 = .ok (.iconst 0, 1) := by decide +kernel
theorem dX2_arrange_1 : decode cX2_arrange 1 = .ok (.istore_n 1, 1) := by decide +kernel
theorem dX2_arrange_2 : decode cX2_arrange 2 = .ok (.iconst 0, 1) := by decide +kernel
theorem dX2_arrange_3 : decode cX2_arrange 3 = .ok (.istore_n 2, 1) := by decide +kernel
theorem dX2_arrange_4 : decode cX2_arrange 4 = .ok (.iload_n 2, 1) := by decide +kernel
theorem dX2_arrange_5 : decode cX2_arrange 5 = .ok (.aload_n 0, 1) := by decide +kernel
theorem dX2_arrange_6 : decode cX2_arrange 6 = .ok (.getfield 28, 3) := by decide +kernel
theorem dX2_arrange_9 : decode cX2_arrange 9 = .ok (.if_icmp .gt 29, 3) := by decide +kernel
theorem dX2_arrange_12 : decode cX2_arrange 12 = .ok (.iload_n 1, 1) := by decide +kernel
theorem dX2_arrange_13 : decode cX2_arrange 13 = .ok (.aload_n 0, 1) := by decide +kernel
theorem dX2_arrange_14 : decode cX2_arrange 14 = .ok (.getfield 18, 3) := by decide +kernel
theorem dX2_arrange_17 : decode cX2_arrange 17 = .ok (.iload_n 2, 1) := by decide +kernel
theorem dX2_arrange_18 : decode cX2_arrange 18 = .ok (.invokevirtual 38, 3) := by decide +kernel
theorem dX2_arrange_21 : decode cX2_arrange 21 = .ok (.iadd, 1) := by decide +kernel
theorem dX2_arrange_22 : decode cX2_arrange 22 = .ok (.istore_n 1, 1) := by decide +kernel
theorem dX2_arrange_23 : decode cX2_arrange 23 = .ok (.aload_n 0, 1) := by decide +kernel
theorem dX2_arrange_24 : decode cX2_arrange 24 = .ok (.getfield 18, 3) := by decide +kernel
theorem dX2_arrange_27 : decode cX2_arrange 27 = .ok (.iload_n 2, 1) := by decide +kernel
theorem dX2_arrange_28 : decode cX2_arrange 28 = .ok (.iload_n 1, 1) := by decide +kernel
theorem dX2_arrange_29 : decode cX2_arrange 29 = .ok (.invokevirtual 34, 3) := by decide +kernel
theorem dX2_arrange_32 : decode cX2_arrange 32 = .ok (.iinc 2 1, 3) := by decide +kernel
theorem dX2_arrange_35 : decode cX2_arrange 35 = .ok (.goto (-31), 3) := by decide +kernel
theorem dX2_arrange_38 : decode cX2_arrange 38 = .ok (.aload_n 0, 1) := by decide +kernel
theorem dX2_arrange_39 : decode cX2_arrange 39 = .ok (.getfield 24, 3) := by decide +kernel
theorem dX2_arrange_42 : decode cX2_arrange 42 = .ok (.iconst 1, 1) := by decide +kernel
theorem dX2_arrange_43 : decode cX2_arrange 43 = .ok (.isub, 1) := by decide +kernel
theorem dX2_arrange_44 : decode cX2_arrange 44 = .ok (.istore_n 2, 1) := by decide +kernel
theorem dX2_arrange_45 : decode cX2_arrange 45 = .ok (.iload_n 2, 1) := by decide +kernel
theorem dX2_arrange_46 : decode cX2_arrange 46 = .ok (.ifCond .lt 50, 3) := by decide +kernel
theorem dX2_arrange_49 : decode cX2_arrange 49 = .ok (.aload_n 0, 1) := by decide +kernel
theorem dX2_arrange_50 : decode cX2_arrange 50 = .ok (.getfield 12, 3) := by decide +kernel
theorem dX2_arrange_53 : decode cX2_arrange 53 = .ok (.iload_n 2, 1) := by decide +kernel
theorem dX2_arrange_54 : decode cX2_arrange 54 = .ok (.invokevirtual 38, 3) := by decide +kernel
theorem dX2_arrange_57 : decode cX2_arrange 57 = .ok (.istore_n 3, 1) := by decide +kernel
theorem dX2_arrange_58 : decode cX2_arrange 58 = .ok (.aload_n 0, 1) := by decide +kernel
theorem dX2_arrange_59 : decode cX2_arrange 59 = .ok (.getfield 18, 3) := by decide +kernel
theorem dX2_arrange_62 : decode cX2_arrange 62 = .ok (.iload_n 3, 1) := by decide +kernel
theorem dX2_arrange_63 : decode cX2_arrange 63 = .ok (.invokevirtual 38, 3) := by decide +kernel
theorem dX2_arrange_66 : decode cX2_arrange 66 = .ok (.iconst 1, 1) := by decide +kernel
theorem dX2_arrange_67 : decode cX2_arrange 67 = .ok (.isub, 1) := by decide +kernel
theorem dX2_arrange_68 : decode cX2_arrange 68 = .ok (.istore 4, 2) := by decide +kernel
theorem dX2_arrange_70 : decode cX2_arrange 70 = .ok (.aload_n 0, 1) := by decide +kernel
theorem dX2_arrange_71 : decode cX2_arrange 71 = .ok (.getfield 18, 3) := by decide +kernel
theorem dX2_arrange_74 : decode cX2_arrange 74 = .ok (.iload_n 3, 1) := by decide +kernel
theorem dX2_arrange_75 : decode cX2_arrange 75 = .ok (.iload 4, 2) := by decide +kernel
theorem dX2_arrange_77 : decode cX2_arrange 77 = .ok (.invokevirtual 34, 3) := by decide +kernel
theorem dX2_arrange_80 : decode cX2_arrange 80 = .ok (.aload_n 0, 1) := by decide +kernel
theorem dX2_arrange_81 : decode cX2_arrange 81 = .ok (.getfield 21, 3) := by decide +kernel
theorem dX2_arrange_84 : decode cX2_arrange 84 = .ok (.iload 4, 2) := by decide +kernel
theorem dX2_arrange_86 : decode cX2_arrange 86 = .ok (.iload_n 2, 1) := by decide +kernel
theorem dX2_arrange_87 : decode cX2_arrange 87 = .ok (.invokevirtual 34, 3) := by decide +kernel
theorem dX2_arrange_90 : decode cX2_arrange 90 = .ok (.iinc 2 (-1), 3) := by decide +kernel
theorem dX2_arrange_93 : decode cX2_arrange 93 = .ok (.goto (-48), 3) := by decide +kernel
theorem dX2_arrange_96 : decode cX2_arrange 96 = .ok (.return_, 1) := by decide +kernel
set_option maxRecDepth 20000 in
theorem ggX2_groupOf_X6_get : GoodIn wsX2_groupOf wsX6_get := goodIn_r _ [5, 6, 12] (by decide +kernel) (by decide +kernel)
set_option maxRecDepth 20000 in
theorem gX2_groupOf_X6_get_n38 : GoodIn wsX2_groupOf (wsX6_get) := ggX2_groupOf_X6_get
theorem dX2_groupOf_0 : decode cX2_groupOf 0 = .ok (.aload_n 0, 1) := by decide +kernel
theorem dX2_groupOf_1 : decode cX2_groupOf 1 = .ok (.getfield 12, 3) := by decide +kernel
theorem dX2_groupOf_4 : decode cX2_groupOf 4 = .ok (.iload_n 1, 1) := by decide +kernel
theorem dX2_groupOf_5 : decode cX2_groupOf 5 = .ok (.invokevirtual 38, 3) := by decide +kernel
theorem dX2_groupOf_8 : decode cX2_groupOf 8 = .ok (.ireturn, 1) := by decide +kernel
set_option maxRecDepth 20000 in
theorem ggX2_beginOf_X6_get : GoodIn wsX2_beginOf wsX6_get := goodIn_r _ [5, 6, 12] (by decide +kernel) (by decide +kernel)
set_option maxRecDepth 20000 in
theorem gX2_beginOf_X6_get_n38 : GoodIn wsX2_beginOf (wsX6_get) := ggX2_beginOf_X6_get
theorem dX2_beginOf_0 : decode cX2_beginOf 0 = .ok (.aload_n 0, 1) := by decide +kernel
theorem dX2_beginOf_1 : decode cX2_beginOf 1 = .ok (.getfield 18, 3) := by decide +kernel
theorem dX2_beginOf_4 : decode cX2_beginOf 4 = .ok (.iload_n 1, 1) := by decide +kernel
theorem dX2_beginOf_5 : decode cX2_beginOf 5 = .ok (.invokevirtual 38, 3) := by decide +kernel
theorem dX2_beginOf_8 : decode cX2_beginOf 8 = .ok (.ireturn, 1) := by decide +kernel
set_option maxRecDepth 20000 in
theorem ggX2_endOf_X6_get : GoodIn wsX2_endOf wsX6_get := goodIn_r _ [5, 6, 12] (by decide +kernel) (by decide +kernel)
set_option maxRecDepth 20000 in
theorem gX2_endOf_X6_get_n38 : GoodIn wsX2_endOf (wsX6_get) := ggX2_endOf_X6_get
theorem dX2_endOf_0 : decode cX2_endOf 0 = .ok (.aload_n 0, 1) := by decide +kernel
theorem dX2_endOf_1 : decode cX2_endOf 1 = .ok (.getfield 18, 3) := by decide +kernel
theorem dX2_endOf_4 : decode cX2_endOf 4 = .ok (.iload_n 1, 1) := by decide +kernel
theorem dX2_endOf_5 : decode cX2_endOf 5 = .ok (.iconst 1, 1) := by decide +kernel
theorem dX2_endOf_6 : decode cX2_endOf 6 = .ok (.iadd, 1) := by decide +kernel
theorem dX2_endOf_7 : decode cX2_endOf 7 = .ok (.invokevirtual 38, 3) := by decide +kernel
theorem dX2_endOf_10 : decode cX2_endOf 10 = .ok (.ireturn, 1) := by decide +kernel
set_option maxRecDepth 20000 in
theorem ggX2_sizeOf_X2_endOf : GoodIn wsX2_sizeOf wsX2_endOf := goodIn_r _ [5, 6, 7, 8, 9, 10, 11, 16, 17, 18, 19, 20, 21] (by decide +kernel) (by decide +kernel)
set_option maxRecDepth 20000 in
theorem gX2_sizeOf_X2_endOf : GoodIn wsX2_sizeOf (wsV RX2 42 RX2 yX2_endOf wsX2_endOf) := goodIn_app (goodIn_of _ (by decide +kernel)) ggX2_sizeOf_X2_endOf
set_option maxRecDepth 20000 in
theorem ggX2_sizeOf_X2_beginOf : GoodIn wsX2_sizeOf wsX2_beginOf := goodIn_r _ [15, 6, 7, 8, 9, 10, 11, 16, 17, 18, 19, 20, 21] (by decide +kernel) (by decide +kernel)
set_option maxRecDepth 20000 in
theorem gX2_sizeOf_X2_beginOf : GoodIn wsX2_sizeOf (wsV RX2 45 RX2 yX2_beginOf wsX2_beginOf) := goodIn_app (goodIn_of _ (by decide +kernel)) ggX2_sizeOf_X2_beginOf
theorem dX2_sizeOf_0 : decode cX2_sizeOf 0 = .ok (.aload_n 0, 1) := by decide +kernel
theorem dX2_sizeOf_1 : decode cX2_sizeOf 1 = .ok (.iload_n 1, 1) := by decide +kernel
theorem dX2_sizeOf_2 : decode cX2_sizeOf 2 = .ok (.invokevirtual 42, 3) := by decide +kernel
theorem dX2_sizeOf_5 : decode cX2_sizeOf 5 = .ok (.aload_n 0, 1) := by decide +kernel
theorem dX2_sizeOf_6 : decode cX2_sizeOf 6 = .ok (.iload_n 1, 1) := by decide +kernel
theorem dX2_sizeOf_7 : decode cX2_sizeOf 7 = .ok (.invokevirtual 45, 3) := by decide +kernel
theorem dX2_sizeOf_10 : decode cX2_sizeOf 10 = .ok (.isub, 1) := by decide +kernel
theorem dX2_sizeOf_11 : decode cX2_sizeOf 11 = .ok (.ireturn, 1) := by decide +kernel
set_option maxRecDepth 20000 in
theorem ggX2_memberAt_X6_get : GoodIn wsX2_memberAt wsX6_get := goodIn_r _ [5, 6, 12] (by decide +kernel) (by decide +kernel)
set_option maxRecDepth 20000 in
theorem gX2_memberAt_X6_get_n38 : GoodIn wsX2_memberAt (wsX6_get) := ggX2_memberAt_X6_get
theorem dX2_memberAt_0 : decode cX2_memberAt 0 = .ok (.aload_n 0, 1) := by decide +kernel
theorem dX2_memberAt_1 : decode cX2_memberAt 1 = .ok (.getfield 21, 3) := by decide +kernel
theorem dX2_memberAt_4 : decode cX2_memberAt 4 = .ok (.iload_n 1, 1) := by decide +kernel
theorem dX2_memberAt_5 : decode cX2_memberAt 5 = .ok (.invokevirtual 38, 3) := by decide +kernel
theorem dX2_memberAt_8 : decode cX2_memberAt 8 = .ok (.ireturn, 1) := by decide +kernel
theorem dX3_of_0 : decode cX3_of 0 = .ok (.iload_n 1, 1) := by decide +kernel
theorem dX3_of_1 : decode cX3_of 1 = .ok (.i2l, 1) := by decide +kernel
theorem dX3_of_2 : decode cX3_of 2 = .ok (.aload_n 0, 1) := by decide +kernel
theorem dX3_of_3 : decode cX3_of 3 = .ok (.getfield 43, 3) := by decide +kernel
theorem dX3_of_6 : decode cX3_of 6 = .ok (.lmul, 1) := by decide +kernel
theorem dX3_of_7 : decode cX3_of 7 = .ok (.iload_n 2, 1) := by decide +kernel
theorem dX3_of_8 : decode cX3_of 8 = .ok (.i2l, 1) := by decide +kernel
theorem dX3_of_9 : decode cX3_of 9 = .ok (.aload_n 0, 1) := by decide +kernel
theorem dX3_of_10 : decode cX3_of 10 = .ok (.getfield 47, 3) := by decide +kernel
theorem dX3_of_13 : decode cX3_of 13 = .ok (.lmul, 1) := by decide +kernel
theorem dX3_of_14 : decode cX3_of 14 = .ok (.ladd, 1) := by decide +kernel
theorem dX3_of_15 : decode cX3_of 15 = .ok (.aload_n 0, 1) := by decide +kernel
theorem dX3_of_16 : decode cX3_of 16 = .ok (.getfield 50, 3) := by decide +kernel
theorem dX3_of_19 : decode cX3_of 19 = .ok (.ladd, 1) := by decide +kernel
theorem dX3_of_20 : decode cX3_of 20 = .ok (.ldc2_w 53, 3) := by decide +kernel
theorem dX3_of_23 : decode cX3_of 23 = .ok (.lrem, 1) := by decide +kernel
theorem dX3_of_24 : decode cX3_of 24 = .ok (.l2i, 1) := by decide +kernel
theorem dX3_of_25 : decode cX3_of 25 = .ok (.ireturn, 1) := by decide +kernel
set_option maxRecDepth 20000 in
theorem ggX4_init_X6_init : GoodIn wsX4_init wsX6_init := goodIn_r _ [9, 10, 2, 3, 11, 12, 13, 14, 15, 16, 17] (by decide +kernel) (by decide +kernel)
set_option maxRecDepth 20000 in
theorem gX4_init_X6_init_n11 : GoodIn wsX4_init (wsX6_init) := ggX4_init_X6_init
theorem dX4_init_0 : decode cX4_init 0 = .ok (.aload_n 0, 1) := by decide +kernel
theorem dX4_init_1 : decode cX4_init 1 = .ok (.invokespecial 3, 3) := by decide +kernel
theorem dX4_init_4 : decode cX4_init 4 = .ok (.aload_n 0, 1) := by decide +kernel
theorem dX4_init_5 : decode cX4_init 5 = .ok (.new 9, 3) := by decide +kernel
theorem dX4_init_8 : decode cX4_init 8 = .ok (.dup, 1) := by decide +kernel
theorem dX4_init_9 : decode cX4_init 9 = .ok (.bipush 120, 2) := by decide +kernel
theorem dX4_init_11 : decode cX4_init 11 = .ok (.invokespecial 11, 3) := by decide +kernel
theorem dX4_init_14 : decode cX4_init 14 = .ok (.putfield 14, 3) := by decide +kernel
theorem dX4_init_17 : decode cX4_init 17 = .ok (.return_, 1) := by decide +kernel
set_option maxRecDepth 20000 in
theorem ggX4_at_X6_get : GoodIn wsX4_at wsX6_get := goodIn_r _ [5, 6, 9] (by decide +kernel) (by decide +kernel)
set_option maxRecDepth 20000 in
theorem gX4_at_X6_get_n20 : GoodIn wsX4_at (wsX6_get) := ggX4_at_X6_get
theorem dX4_at_0 : decode cX4_at 0 = .ok (.aload_n 0, 1) := by decide +kernel
theorem dX4_at_1 : decode cX4_at 1 = .ok (.getfield 14, 3) := by decide +kernel
theorem dX4_at_4 : decode cX4_at 4 = .ok (.iload_n 1, 1) := by decide +kernel
theorem dX4_at_5 : decode cX4_at 5 = .ok (.invokevirtual 20, 3) := by decide +kernel
theorem dX4_at_8 : decode cX4_at 8 = .ok (.ireturn, 1) := by decide +kernel
set_option maxRecDepth 20000 in
theorem ggX4_rankOf_X6_get : GoodIn wsX4_rankOf wsX6_get := goodIn_r _ [6, 7, 10] (by decide +kernel) (by decide +kernel)
set_option maxRecDepth 20000 in
theorem gX4_rankOf_X6_get_n20 : GoodIn wsX4_rankOf (wsX6_get) := ggX4_rankOf_X6_get
theorem dX4_rankOf_0 : decode cX4_rankOf 0 = .ok (.iconst 0, 1) := by decide +kernel
theorem dX4_rankOf_1 : decode cX4_rankOf 1 = .ok (.istore_n 2, 1) := by decide +kernel
theorem dX4_rankOf_2 : decode cX4_rankOf 2 = .ok (.iload_n 2, 1) := by decide +kernel
theorem dX4_rankOf_3 : decode cX4_rankOf 3 = .ok (.aload_n 0, 1) := by decide +kernel
theorem dX4_rankOf_4 : decode cX4_rankOf 4 = .ok (.getfield 24, 3) := by decide +kernel
theorem dX4_rankOf_7 : decode cX4_rankOf 7 = .ok (.if_icmp .ge 21, 3) := by decide +kernel
theorem dX4_rankOf_10 : decode cX4_rankOf 10 = .ok (.aload_n 0, 1) := by decide +kernel
theorem dX4_rankOf_11 : decode cX4_rankOf 11 = .ok (.getfield 14, 3) := by decide +kernel
theorem dX4_rankOf_14 : decode cX4_rankOf 14 = .ok (.iload_n 2, 1) := by decide +kernel
theorem dX4_rankOf_15 : decode cX4_rankOf 15 = .ok (.invokevirtual 20, 3) := by decide +kernel
theorem dX4_rankOf_18 : decode cX4_rankOf 18 = .ok (.iload_n 1, 1) := by decide +kernel
theorem dX4_rankOf_19 : decode cX4_rankOf 19 = .ok (.if_icmp .ge 9, 3) := by decide +kernel
theorem dX4_rankOf_22 : decode cX4_rankOf 22 = .ok (.iinc 2 1, 3) := by decide +kernel
theorem dX4_rankOf_25 : decode cX4_rankOf 25 = .ok (.goto (-23), 3) := by decide +kernel
theorem dX4_rankOf_28 : decode cX4_rankOf 28 = .ok (.iload_n 2, 1) := by decide +kernel
theorem dX4_rankOf_29 : decode cX4_rankOf 29 = .ok (.ireturn, 1) := by decide +kernel
set_option maxRecDepth 20000 in
theorem ggX4_holds_X4_rankOf : GoodIn wsX4_holds wsX4_rankOf := goodIn_r _ [7, 1, 2, 8, 9, 10, 11, 12, 13, 14, 15] (by decide +kernel) (by decide +kernel)
set_option maxRecDepth 20000 in
theorem gX4_holds_X4_rankOf : GoodIn wsX4_holds (wsV RX4 28 RX4 yX4_rankOf wsX4_rankOf) := goodIn_app (goodIn_of _ (by decide +kernel)) ggX4_holds_X4_rankOf
set_option maxRecDepth 20000 in
theorem ggX4_holds_X6_get : GoodIn wsX4_holds wsX6_get := goodIn_r _ [11, 12, 15] (by decide +kernel) (by decide +kernel)
set_option maxRecDepth 20000 in
theorem gX4_holds_X6_get_n20 : GoodIn wsX4_holds (wsX6_get) := ggX4_holds_X6_get
theorem dX4_holds_0 : decode cX4_holds 0 = .ok (.aload_n 0, 1) := by decide +kernel
theorem dX4_holds_1 : decode cX4_holds 1 = .ok (.iload_n 1, 1) := by decide +kernel
theorem dX4_holds_2 : decode cX4_holds 2 = .ok (.invokevirtual 28, 3) := by decide +kernel
theorem dX4_holds_5 : decode cX4_holds 5 = .ok (.istore_n 2, 1) := by decide +kernel
theorem dX4_holds_6 : decode cX4_holds 6 = .ok (.iload_n 2, 1) := by decide +kernel
theorem dX4_holds_7 : decode cX4_holds 7 = .ok (.aload_n 0, 1) := by decide +kernel
theorem dX4_holds_8 : decode cX4_holds 8 = .ok (.getfield 24, 3) := by decide +kernel
theorem dX4_holds_11 : decode cX4_holds 11 = .ok (.if_icmp .ge 19, 3) := by decide +kernel
theorem dX4_holds_14 : decode cX4_holds 14 = .ok (.aload_n 0, 1) := by decide +kernel
theorem dX4_holds_15 : decode cX4_holds 15 = .ok (.getfield 14, 3) := by decide +kernel
theorem dX4_holds_18 : decode cX4_holds 18 = .ok (.iload_n 2, 1) := by decide +kernel
theorem dX4_holds_19 : decode cX4_holds 19 = .ok (.invokevirtual 20, 3) := by decide +kernel
theorem dX4_holds_22 : decode cX4_holds 22 = .ok (.iload_n 1, 1) := by decide +kernel
theorem dX4_holds_23 : decode cX4_holds 23 = .ok (.if_icmp .ne 7, 3) := by decide +kernel
theorem dX4_holds_26 : decode cX4_holds 26 = .ok (.iconst 1, 1) := by decide +kernel
theorem dX4_holds_27 : decode cX4_holds 27 = .ok (.goto 4, 3) := by decide +kernel
theorem dX4_holds_30 : decode cX4_holds 30 = .ok (.iconst 0, 1) := by decide +kernel
theorem dX4_holds_31 : decode cX4_holds 31 = .ok (.ireturn, 1) := by decide +kernel
set_option maxRecDepth 20000 in
theorem ggX4_insert_X4_rankOf : GoodIn wsX4_insert wsX4_rankOf := goodIn_r _ [7, 1, 2, 8, 9, 10, 11, 12, 16, 17, 18] (by decide +kernel) (by decide +kernel)
set_option maxRecDepth 20000 in
theorem gX4_insert_X4_rankOf : GoodIn wsX4_insert (wsV RX4 28 RX4 yX4_rankOf wsX4_rankOf) := goodIn_app (goodIn_of _ (by decide +kernel)) ggX4_insert_X4_rankOf
set_option maxRecDepth 20000 in
theorem ggX4_insert_X6_get : GoodIn wsX4_insert wsX6_get := goodIn_r _ [11, 12, 18] (by decide +kernel) (by decide +kernel)
set_option maxRecDepth 20000 in
theorem gX4_insert_X6_get_n20 : GoodIn wsX4_insert (wsX6_get) := ggX4_insert_X6_get
set_option maxRecDepth 20000 in
theorem ggX4_insert_X6_set : GoodIn wsX4_insert wsX6_set := goodIn_r _ [15, 12, 18] (by decide +kernel) (by decide +kernel)
set_option maxRecDepth 20000 in
theorem gX4_insert_X6_set_n31 : GoodIn wsX4_insert (wsX6_set) := ggX4_insert_X6_set
theorem dX4_insert_0 : decode cX4_insert 0 = .ok (.aload_n 0, 1) := by decide +kernel
theorem dX4_insert_1 : decode cX4_insert 1 = .ok (.iload_n 1, 1) := by decide +kernel
theorem dX4_insert_2 : decode cX4_insert 2 = .ok (.invokevirtual 28, 3) := by decide +kernel
theorem dX4_insert_5 : decode cX4_insert 5 = .ok (.istore_n 2, 1) := by decide +kernel
theorem dX4_insert_6 : decode cX4_insert 6 = .ok (.aload_n 0, 1) := by decide +kernel
theorem dX4_insert_7 : decode cX4_insert 7 = .ok (.getfield 24, 3) := by decide +kernel
theorem dX4_insert_10 : decode cX4_insert 10 = .ok (.istore_n 3, 1) := by decide +kernel
theorem dX4_insert_11 : decode cX4_insert 11 = .ok (.iload_n 3, 1) := by decide +kernel
theorem dX4_insert_12 : decode cX4_insert 12 = .ok (.iload_n 2, 1) := by decide +kernel
theorem dX4_insert_13 : decode cX4_insert 13 = .ok (.if_icmp .le 27, 3) := by decide +kernel
theorem dX4_insert_16 : decode cX4_insert 16 = .ok (.aload_n 0, 1) := by decide +kernel
theorem dX4_insert_17 : decode cX4_insert 17 = .ok (.getfield 14, 3) := by decide +kernel
theorem dX4_insert_20 : decode cX4_insert 20 = .ok (.iload_n 3, 1) := by decide +kernel
theorem dX4_insert_21 : decode cX4_insert 21 = .ok (.aload_n 0, 1) := by decide +kernel
theorem dX4_insert_22 : decode cX4_insert 22 = .ok (.getfield 14, 3) := by decide +kernel
theorem dX4_insert_25 : decode cX4_insert 25 = .ok (.iload_n 3, 1) := by decide +kernel
theorem dX4_insert_26 : decode cX4_insert 26 = .ok (.iconst 1, 1) := by decide +kernel
theorem dX4_insert_27 : decode cX4_insert 27 = .ok (.isub, 1) := by decide +kernel
theorem dX4_insert_28 : decode cX4_insert 28 = .ok (.invokevirtual 20, 3) := by decide +kernel
theorem dX4_insert_31 : decode cX4_insert 31 = .ok (.invokevirtual 31, 3) := by decide +kernel
theorem dX4_insert_34 : decode cX4_insert 34 = .ok (.iinc 3 (-1), 3) := by decide +kernel
theorem dX4_insert_37 : decode cX4_insert 37 = .ok (.goto (-26), 3) := by decide +kernel
theorem dX4_insert_40 : decode cX4_insert 40 = .ok (.aload_n 0, 1) := by decide +kernel
theorem dX4_insert_41 : decode cX4_insert 41 = .ok (.getfield 14, 3) := by decide +kernel
theorem dX4_insert_44 : decode cX4_insert 44 = .ok (.iload_n 2, 1) := by decide +kernel
theorem dX4_insert_45 : decode cX4_insert 45 = .ok (.iload_n 1, 1) := by decide +kernel
theorem dX4_insert_46 : decode cX4_insert 46 = .ok (.invokevirtual 31, 3) := by decide +kernel
theorem dX4_insert_49 : decode cX4_insert 49 = .ok (.aload_n 0, 1) := by decide +kernel
theorem dX4_insert_50 : decode cX4_insert 50 = .ok (.dup, 1) := by decide +kernel
theorem dX4_insert_51 : decode cX4_insert 51 = .ok (.getfield 24, 3) := by decide +kernel
theorem dX4_insert_54 : decode cX4_insert 54 = .ok (.iconst 1, 1) := by decide +kernel
theorem dX4_insert_55 : decode cX4_insert 55 = .ok (.iadd, 1) := by decide +kernel
theorem dX4_insert_56 : decode cX4_insert 56 = .ok (.putfield 24, 3) := by decide +kernel
theorem dX4_insert_59 : decode cX4_insert 59 = .ok (.return_, 1) := by decide +kernel
set_option maxRecDepth 20000 in
theorem ggX4_delete_X4_rankOf : GoodIn wsX4_delete wsX4_rankOf := goodIn_r _ [7, 1, 2, 8, 9, 10, 11, 12, 16, 17, 18] (by decide +kernel) (by decide +kernel)
set_option maxRecDepth 20000 in
theorem gX4_delete_X4_rankOf : GoodIn wsX4_delete (wsV RX4 28 RX4 yX4_rankOf wsX4_rankOf) := goodIn_app (goodIn_of _ (by decide +kernel)) ggX4_delete_X4_rankOf
set_option maxRecDepth 20000 in
theorem ggX4_delete_X6_get : GoodIn wsX4_delete wsX6_get := goodIn_r _ [11, 12, 18] (by decide +kernel) (by decide +kernel)
set_option maxRecDepth 20000 in
theorem gX4_delete_X6_get_n20 : GoodIn wsX4_delete (wsX6_get) := ggX4_delete_X6_get
set_option maxRecDepth 20000 in
theorem ggX4_delete_X6_set : GoodIn wsX4_delete wsX6_set := goodIn_r _ [15, 12, 18] (by decide +kernel) (by decide +kernel)
set_option maxRecDepth 20000 in
theorem gX4_delete_X6_set_n31 : GoodIn wsX4_delete (wsX6_set) := ggX4_delete_X6_set
theorem dX4_delete_0 : decode cX4_delete 0 = .ok (.aload_n 0, 1) := by decide +kernel
theorem dX4_delete_1 : decode cX4_delete 1 = .ok (.iload_n 1, 1) := by decide +kernel
theorem dX4_delete_2 : decode cX4_delete 2 = .ok (.invokevirtual 28, 3) := by decide +kernel
theorem dX4_delete_5 : decode cX4_delete 5 = .ok (.iconst 1, 1) := by decide +kernel
theorem dX4_delete_6 : decode cX4_delete 6 = .ok (.iadd, 1) := by decide +kernel
theorem dX4_delete_7 : decode cX4_delete 7 = .ok (.istore_n 2, 1) := by decide +kernel
theorem dX4_delete_8 : decode cX4_delete 8 = .ok (.iload_n 2, 1) := by decide +kernel
theorem dX4_delete_9 : decode cX4_delete 9 = .ok (.aload_n 0, 1) := by decide +kernel
theorem dX4_delete_10 : decode cX4_delete 10 = .ok (.getfield 24, 3) := by decide +kernel
theorem dX4_delete_13 : decode cX4_delete 13 = .ok (.if_icmp .ge 27, 3) := by decide +kernel
theorem dX4_delete_16 : decode cX4_delete 16 = .ok (.aload_n 0, 1) := by decide +kernel
theorem dX4_delete_17 : decode cX4_delete 17 = .ok (.getfield 14, 3) := by decide +kernel
theorem dX4_delete_20 : decode cX4_delete 20 = .ok (.iload_n 2, 1) := by decide +kernel
theorem dX4_delete_21 : decode cX4_delete 21 = .ok (.iconst 1, 1) := by decide +kernel
theorem dX4_delete_22 : decode cX4_delete 22 = .ok (.isub, 1) := by decide +kernel
theorem dX4_delete_23 : decode cX4_delete 23 = .ok (.aload_n 0, 1) := by decide +kernel
theorem dX4_delete_24 : decode cX4_delete 24 = .ok (.getfield 14, 3) := by decide +kernel
theorem dX4_delete_27 : decode cX4_delete 27 = .ok (.iload_n 2, 1) := by decide +kernel
theorem dX4_delete_28 : decode cX4_delete 28 = .ok (.invokevirtual 20, 3) := by decide +kernel
theorem dX4_delete_31 : decode cX4_delete 31 = .ok (.invokevirtual 31, 3) := by decide +kernel
theorem dX4_delete_34 : decode cX4_delete 34 = .ok (.iinc 2 1, 3) := by decide +kernel
theorem dX4_delete_37 : decode cX4_delete 37 = .ok (.goto (-29), 3) := by decide +kernel
theorem dX4_delete_40 : decode cX4_delete 40 = .ok (.aload_n 0, 1) := by decide +kernel
theorem dX4_delete_41 : decode cX4_delete 41 = .ok (.dup, 1) := by decide +kernel
theorem dX4_delete_42 : decode cX4_delete 42 = .ok (.getfield 24, 3) := by decide +kernel
theorem dX4_delete_45 : decode cX4_delete 45 = .ok (.iconst 1, 1) := by decide +kernel
theorem dX4_delete_46 : decode cX4_delete 46 = .ok (.isub, 1) := by decide +kernel
theorem dX4_delete_47 : decode cX4_delete 47 = .ok (.putfield 24, 3) := by decide +kernel
theorem dX4_delete_50 : decode cX4_delete 50 = .ok (.return_, 1) := by decide +kernel
theorem dX5_init_0 : decode cX5_init 0 = .ok (.aload_n 0, 1) := by decide +kernel
theorem dX5_init_1 : decode cX5_init 1 = .ok (.invokespecial 3, 3) := by decide +kernel
theorem dX5_init_4 : decode cX5_init 4 = .ok (.aload_n 0, 1) := by decide +kernel
theorem dX5_init_5 : decode cX5_init 5 = .ok (.bipush 17, 2) := by decide +kernel
theorem dX5_init_7 : decode cX5_init 7 = .ok (.newarray .long, 2) := by decide +kernel
theorem dX5_init_9 : decode cX5_init 9 = .ok (.putfield 9, 3) := by decide +kernel
theorem dX5_init_12 : decode cX5_init 12 = .ok (.return_, 1) := by decide +kernel
set_option maxRecDepth 20000 in
theorem ggX5_pack_J7_fill_d0a16 : GoodIn wsX5_pack wsJ7_fill_d0a16 := goodIn_r _ [7] (by decide +kernel) (by decide +kernel)
set_option maxRecDepth 20000 in
theorem gX5_pack_J7_fill_d0a16 : GoodIn wsX5_pack (va_wsS RX5 15 yJ7_fill_d0a16 wsJ7_fill_d0a16) := goodIn_app (goodIn_of _ (by decide +kernel)) ggX5_pack_J7_fill_d0a16
set_option maxRecDepth 20000 in
theorem ggX5_pack_X5_greatest : GoodIn wsX5_pack wsX5_greatest := goodIn_r _ [11, 12, 13, 14, 15, 16, 17, 18, 19, 20, 38] (by decide +kernel) (by decide +kernel)
set_option maxRecDepth 20000 in
theorem gX5_pack_X5_greatest : GoodIn wsX5_pack (va_wsS RX5 21 yX5_greatest wsX5_greatest) := goodIn_app (goodIn_of _ (by decide +kernel)) ggX5_pack_X5_greatest
set_option maxRecDepth 20000 in
theorem ggX5_pack_X5_widthFor : GoodIn wsX5_pack wsX5_widthFor := goodIn_r _ [23] (by decide +kernel) (by decide +kernel)
set_option maxRecDepth 20000 in
theorem gX5_pack_X5_widthFor : GoodIn wsX5_pack (va_wsS RX5 25 yX5_widthFor wsX5_widthFor) := goodIn_app (goodIn_of _ (by decide +kernel)) ggX5_pack_X5_widthFor
set_option maxRecDepth 20000 in
theorem ggX5_pack_X7_dividedUp : GoodIn wsX5_pack wsX7_dividedUp := goodIn_r _ [26] (by decide +kernel) (by decide +kernel)
set_option maxRecDepth 20000 in
theorem gX5_pack_X7_dividedUp_n33 : GoodIn wsX5_pack (wsX7_dividedUp) := ggX5_pack_X7_dividedUp
set_option maxRecDepth 20000 in
theorem ggX5_pack_X6_get : GoodIn wsX5_pack wsX6_get := goodIn_r _ [19, 20, 38] (by decide +kernel) (by decide +kernel)
set_option maxRecDepth 20000 in
theorem gX5_pack_X6_get_n40 : GoodIn wsX5_pack (wsX6_get) := ggX5_pack_X6_get
set_option maxRecDepth 20000 in
theorem ggX5_pack_X5_write : GoodIn wsX5_pack wsX5_write := goodIn_r _ [30, 2, 31, 32, 33, 10, 34, 1, 35, 36, 37] (by decide +kernel) (by decide +kernel)
set_option maxRecDepth 20000 in
theorem gX5_pack_X5_write : GoodIn wsX5_pack (wsV RX5 45 RX5 yX5_write wsX5_write) := goodIn_app (goodIn_of _ (by decide +kernel)) ggX5_pack_X5_write
theorem dX5_pack_0 : decode cX5_pack 0 = .ok (.aload_n 0, 1) := by decide +kernel
theorem dX5_pack_1 : decode cX5_pack 1 = .ok (.getfield 9, 3) := by decide +kernel
theorem dX5_pack_4 : decode cX5_pack 4 = .ok (.lconst 0, 1) := by decide +kernel
theorem dX5_pack_5 : decode cX5_pack 5 = .ok (.invokestatic 15, 3) := by decide +kernel
theorem dX5_pack_8 : decode cX5_pack 8 = .ok (.aload_n 0, 1) := by decide +kernel
theorem dX5_pack_9 : decode cX5_pack 9 = .ok (.aload_n 1, 1) := by decide +kernel
theorem dX5_pack_10 : decode cX5_pack 10 = .ok (.iload_n 2, 1) := by decide +kernel
theorem dX5_pack_11 : decode cX5_pack 11 = .ok (.invokestatic 21, 3) := by decide +kernel
theorem dX5_pack_14 : decode cX5_pack 14 = .ok (.invokestatic 25, 3) := by decide +kernel
theorem dX5_pack_17 : decode cX5_pack 17 = .ok (.putfield 29, 3) := by decide +kernel
theorem dX5_pack_20 : decode cX5_pack 20 = .ok (.aload_n 0, 1) := by decide +kernel
theorem dX5_pack_21 : decode cX5_pack 21 = .ok (.iload_n 2, 1) := by decide +kernel
theorem dX5_pack_22 : decode cX5_pack 22 = .ok (.aload_n 0, 1) := by decide +kernel
theorem dX5_pack_23 : decode cX5_pack 23 = .ok (.getfield 29, 3) := by decide +kernel
theorem dX5_pack_26 : decode cX5_pack 26 = .ok (.imul, 1) := by decide +kernel
theorem dX5_pack_27 : decode cX5_pack 27 = .ok (.bipush 64, 2) := by decide +kernel
theorem dX5_pack_29 : decode cX5_pack 29 = .ok (.invokestatic 33, 3) := by decide +kernel
theorem dX5_pack_32 : decode cX5_pack 32 = .ok (.putfield 37, 3) := by decide +kernel
theorem dX5_pack_35 : decode cX5_pack 35 = .ok (.iconst 0, 1) := by decide +kernel
theorem dX5_pack_36 : decode cX5_pack 36 = .ok (.istore_n 3, 1) := by decide +kernel
theorem dX5_pack_37 : decode cX5_pack 37 = .ok (.iload_n 3, 1) := by decide +kernel
theorem dX5_pack_38 : decode cX5_pack 38 = .ok (.iload_n 2, 1) := by decide +kernel
theorem dX5_pack_39 : decode cX5_pack 39 = .ok (.if_icmp .ge 25, 3) := by decide +kernel
theorem dX5_pack_42 : decode cX5_pack 42 = .ok (.aload_n 0, 1) := by decide +kernel
theorem dX5_pack_43 : decode cX5_pack 43 = .ok (.iload_n 3, 1) := by decide +kernel
theorem dX5_pack_44 : decode cX5_pack 44 = .ok (.aload_n 0, 1) := by decide +kernel
theorem dX5_pack_45 : decode cX5_pack 45 = .ok (.getfield 29, 3) := by decide +kernel
theorem dX5_pack_48 : decode cX5_pack 48 = .ok (.imul, 1) := by decide +kernel
theorem dX5_pack_49 : decode cX5_pack 49 = .ok (.aload_n 1, 1) := by decide +kernel
theorem dX5_pack_50 : decode cX5_pack 50 = .ok (.iload_n 3, 1) := by decide +kernel
theorem dX5_pack_51 : decode cX5_pack 51 = .ok (.invokevirtual 40, 3) := by decide +kernel
theorem dX5_pack_54 : decode cX5_pack 54 = .ok (.i2l, 1) := by decide +kernel
theorem dX5_pack_55 : decode cX5_pack 55 = .ok (.invokevirtual 45, 3) := by decide +kernel
theorem dX5_pack_58 : decode cX5_pack 58 = .ok (.iinc 3 1, 3) := by decide +kernel
theorem dX5_pack_61 : decode cX5_pack 61 = .ok (.goto (-24), 3) := by decide +kernel
theorem dX5_pack_64 : decode cX5_pack 64 = .ok (.return_, 1) := by decide +kernel
set_option maxRecDepth 20000 in
theorem ggX5_greatest_X6_get : GoodIn wsX5_greatest wsX6_get := goodIn_r _ [8, 9, 10] (by decide +kernel) (by decide +kernel)
set_option maxRecDepth 20000 in
theorem gX5_greatest_X6_get_n40 : GoodIn wsX5_greatest (wsX6_get) := ggX5_greatest_X6_get
theorem dX5_greatest_0 : decode cX5_greatest 0 = .ok (.iconst 0, 1) := by decide +kernel
theorem dX5_greatest_1 : decode cX5_greatest 1 = .ok (.istore_n 2, 1) := by decide +kernel
theorem dX5_greatest_2 : decode cX5_greatest 2 = .ok (.iconst 0, 1) := by decide +kernel
theorem dX5_greatest_3 : decode cX5_greatest 3 = .ok (.istore_n 3, 1) := by decide +kernel
theorem dX5_greatest_4 : decode cX5_greatest 4 = .ok (.iload_n 3, 1) := by decide +kernel
theorem dX5_greatest_5 : decode cX5_greatest 5 = .ok (.iload_n 1, 1) := by decide +kernel
theorem dX5_greatest_6 : decode cX5_greatest 6 = .ok (.if_icmp .ge 19, 3) := by decide +kernel
theorem dX5_greatest_9 : decode cX5_greatest 9 = .ok (.iload_n 2, 1) := by decide +kernel
theorem dX5_greatest_10 : decode cX5_greatest 10 = .ok (.aload_n 0, 1) := by decide +kernel
theorem dX5_greatest_11 : decode cX5_greatest 11 = .ok (.iload_n 3, 1) := by decide +kernel
theorem dX5_greatest_12 : decode cX5_greatest 12 = .ok (.invokevirtual 40, 3) := by decide +kernel
theorem dX5_greatest_15 : decode cX5_greatest 15 = .ok (.invokestatic 49, 3) := by decide +kernel
theorem dX5_greatest_18 : decode cX5_greatest 18 = .ok (.istore_n 2, 1) := by decide +kernel
theorem dX5_greatest_19 : decode cX5_greatest 19 = .ok (.iinc 3 1, 3) := by decide +kernel
theorem dX5_greatest_22 : decode cX5_greatest 22 = .ok (.goto (-18), 3) := by decide +kernel
theorem dX5_greatest_25 : decode cX5_greatest 25 = .ok (.iload_n 2, 1) := by decide +kernel
theorem dX5_greatest_26 : decode cX5_greatest 26 = .ok (.ireturn, 1) := by decide +kernel
theorem dX5_widthFor_0 : decode cX5_widthFor 0 = .ok (.iconst 1, 1) := by decide +kernel
theorem dX5_widthFor_1 : decode cX5_widthFor 1 = .ok (.istore_n 1, 1) := by decide +kernel
theorem dX5_widthFor_2 : decode cX5_widthFor 2 = .ok (.iload_n 1, 1) := by decide +kernel
theorem dX5_widthFor_3 : decode cX5_widthFor 3 = .ok (.bipush 9, 2) := by decide +kernel
theorem dX5_widthFor_5 : decode cX5_widthFor 5 = .ok (.if_icmp .ge 15, 3) := by decide +kernel
theorem dX5_widthFor_8 : decode cX5_widthFor 8 = .ok (.iload_n 0, 1) := by decide +kernel
theorem dX5_widthFor_9 : decode cX5_widthFor 9 = .ok (.iload_n 1, 1) := by decide +kernel
theorem dX5_widthFor_10 : decode cX5_widthFor 10 = .ok (.ishr, 1) := by decide +kernel
theorem dX5_widthFor_11 : decode cX5_widthFor 11 = .ok (.ifCond .le 9, 3) := by decide +kernel
theorem dX5_widthFor_14 : decode cX5_widthFor 14 = .ok (.iinc 1 1, 3) := by decide +kernel
theorem dX5_widthFor_17 : decode cX5_widthFor 17 = .ok (.goto (-15), 3) := by decide +kernel
theorem dX5_widthFor_20 : decode cX5_widthFor 20 = .ok (.iload_n 1, 1) := by decide +kernel
theorem dX5_widthFor_21 : decode cX5_widthFor 21 = .ok (.ireturn, 1) := by decide +kernel
set_option maxRecDepth 20000 in
theorem ggX5_write_X5_join : GoodIn wsX5_write wsX5_join := goodIn_r _ [6, 7, 8, 9, 10] (by decide +kernel) (by decide +kernel)
set_option maxRecDepth 20000 in
theorem gX5_write_X5_join : GoodIn wsX5_write (wsV RX5 54 RX5 yX5_join wsX5_join) := goodIn_app (goodIn_of _ (by decide +kernel)) ggX5_write_X5_join
theorem dX5_write_0 : decode cX5_write 0 = .ok (.iload_n 1, 1) := by decide +kernel
theorem dX5_write_1 : decode cX5_write 1 = .ok (.bipush 64, 2) := by decide +kernel
theorem dX5_write_3 : decode cX5_write 3 = .ok (.idiv, 1) := by decide +kernel
theorem dX5_write_4 : decode cX5_write 4 = .ok (.istore 4, 2) := by decide +kernel
theorem dX5_write_6 : decode cX5_write 6 = .ok (.iload_n 1, 1) := by decide +kernel
theorem dX5_write_7 : decode cX5_write 7 = .ok (.bipush 64, 2) := by decide +kernel
theorem dX5_write_9 : decode cX5_write 9 = .ok (.irem, 1) := by decide +kernel
theorem dX5_write_10 : decode cX5_write 10 = .ok (.istore 5, 2) := by decide +kernel
theorem dX5_write_12 : decode cX5_write 12 = .ok (.aload_n 0, 1) := by decide +kernel
theorem dX5_write_13 : decode cX5_write 13 = .ok (.iload 4, 2) := by decide +kernel
theorem dX5_write_15 : decode cX5_write 15 = .ok (.lload_n 2, 1) := by decide +kernel
theorem dX5_write_16 : decode cX5_write 16 = .ok (.iload 5, 2) := by decide +kernel
theorem dX5_write_18 : decode cX5_write 18 = .ok (.lshl, 1) := by decide +kernel
theorem dX5_write_19 : decode cX5_write 19 = .ok (.invokevirtual 54, 3) := by decide +kernel
theorem dX5_write_22 : decode cX5_write 22 = .ok (.iload 5, 2) := by decide +kernel
theorem dX5_write_24 : decode cX5_write 24 = .ok (.aload_n 0, 1) := by decide +kernel
theorem dX5_write_25 : decode cX5_write 25 = .ok (.getfield 29, 3) := by decide +kernel
theorem dX5_write_28 : decode cX5_write 28 = .ok (.iadd, 1) := by decide +kernel
theorem dX5_write_29 : decode cX5_write 29 = .ok (.bipush 64, 2) := by decide +kernel
theorem dX5_write_31 : decode cX5_write 31 = .ok (.if_icmp .le 18, 3) := by decide +kernel
theorem dX5_write_34 : decode cX5_write 34 = .ok (.aload_n 0, 1) := by decide +kernel
theorem dX5_write_35 : decode cX5_write 35 = .ok (.iload 4, 2) := by decide +kernel
theorem dX5_write_37 : decode cX5_write 37 = .ok (.iconst 1, 1) := by decide +kernel
theorem dX5_write_38 : decode cX5_write 38 = .ok (.iadd, 1) := by decide +kernel
theorem dX5_write_39 : decode cX5_write 39 = .ok (.lload_n 2, 1) := by decide +kernel
theorem dX5_write_40 : decode cX5_write 40 = .ok (.bipush 64, 2) := by decide +kernel
theorem dX5_write_42 : decode cX5_write 42 = .ok (.iload 5, 2) := by decide +kernel
theorem dX5_write_44 : decode cX5_write 44 = .ok (.isub, 1) := by decide +kernel
theorem dX5_write_45 : decode cX5_write 45 = .ok (.lushr, 1) := by decide +kernel
theorem dX5_write_46 : decode cX5_write 46 = .ok (.invokevirtual 54, 3) := by decide +kernel
theorem dX5_write_49 : decode cX5_write 49 = .ok (.return_, 1) := by decide +kernel
theorem dX5_join_0 : decode cX5_join 0 = .ok (.iload_n 1, 1) := by decide +kernel
theorem dX5_join_1 : decode cX5_join 1 = .ok (.ifCond .lt 22, 3) := by decide +kernel
theorem dX5_join_4 : decode cX5_join 4 = .ok (.iload_n 1, 1) := by decide +kernel
theorem dX5_join_5 : decode cX5_join 5 = .ok (.aload_n 0, 1) := by decide +kernel
theorem dX5_join_6 : decode cX5_join 6 = .ok (.getfield 9, 3) := by decide +kernel
theorem dX5_join_9 : decode cX5_join 9 = .ok (.arraylength, 1) := by decide +kernel
theorem dX5_join_10 : decode cX5_join 10 = .ok (.if_icmp .ge 13, 3) := by decide +kernel
theorem dX5_join_13 : decode cX5_join 13 = .ok (.aload_n 0, 1) := by decide +kernel
theorem dX5_join_14 : decode cX5_join 14 = .ok (.getfield 9, 3) := by decide +kernel
theorem dX5_join_17 : decode cX5_join 17 = .ok (.iload_n 1, 1) := by decide +kernel
theorem dX5_join_18 : decode cX5_join 18 = .ok (.dup2, 1) := by decide +kernel
theorem dX5_join_19 : decode cX5_join 19 = .ok (.laload, 1) := by decide +kernel
theorem dX5_join_20 : decode cX5_join 20 = .ok (.lload_n 2, 1) := by decide +kernel
theorem dX5_join_21 : decode cX5_join 21 = .ok (.lor, 1) := by decide +kernel
theorem dX5_join_22 : decode cX5_join 22 = .ok (.lastore, 1) := by decide +kernel
theorem dX5_join_23 : decode cX5_join 23 = .ok (.return_, 1) := by decide +kernel
theorem dX5_wordAt_0 : decode cX5_wordAt 0 = .ok (.iload_n 1, 1) := by decide +kernel
theorem dX5_wordAt_1 : decode cX5_wordAt 1 = .ok (.ifCond .lt 21, 3) := by decide +kernel
theorem dX5_wordAt_4 : decode cX5_wordAt 4 = .ok (.iload_n 1, 1) := by decide +kernel
theorem dX5_wordAt_5 : decode cX5_wordAt 5 = .ok (.aload_n 0, 1) := by decide +kernel
theorem dX5_wordAt_6 : decode cX5_wordAt 6 = .ok (.getfield 9, 3) := by decide +kernel
theorem dX5_wordAt_9 : decode cX5_wordAt 9 = .ok (.arraylength, 1) := by decide +kernel
theorem dX5_wordAt_10 : decode cX5_wordAt 10 = .ok (.if_icmp .ge 12, 3) := by decide +kernel
theorem dX5_wordAt_13 : decode cX5_wordAt 13 = .ok (.aload_n 0, 1) := by decide +kernel
theorem dX5_wordAt_14 : decode cX5_wordAt 14 = .ok (.getfield 9, 3) := by decide +kernel
theorem dX5_wordAt_17 : decode cX5_wordAt 17 = .ok (.iload_n 1, 1) := by decide +kernel
theorem dX5_wordAt_18 : decode cX5_wordAt 18 = .ok (.laload, 1) := by decide +kernel
theorem dX5_wordAt_19 : decode cX5_wordAt 19 = .ok (.goto 4, 3) := by decide +kernel
theorem dX5_wordAt_22 : decode cX5_wordAt 22 = .ok (.lconst 0, 1) := by decide +kernel
theorem dX5_wordAt_23 : decode cX5_wordAt 23 = .ok (.lreturn, 1) := by decide +kernel
theorem dX6_init_0 : decode cX6_init 0 = .ok (.aload_n 0, 1) := by decide +kernel
theorem dX6_init_1 : decode cX6_init 1 = .ok (.invokespecial 1, 3) := by decide +kernel
theorem dX6_init_4 : decode cX6_init 4 = .ok (.aload_n 0, 1) := by decide +kernel
theorem dX6_init_5 : decode cX6_init 5 = .ok (.iload_n 1, 1) := by decide +kernel
theorem dX6_init_6 : decode cX6_init 6 = .ok (.iconst 0, 1) := by decide +kernel
theorem dX6_init_7 : decode cX6_init 7 = .ok (.invokestatic 7, 3) := by decide +kernel
theorem dX6_init_10 : decode cX6_init 10 = .ok (.newarray .int, 2) := by decide +kernel
theorem dX6_init_12 : decode cX6_init 12 = .ok (.putfield 13, 3) := by decide +kernel
theorem dX6_init_15 : decode cX6_init 15 = .ok (.return_, 1) := by decide +kernel
theorem dX6_get_0 : decode cX6_get 0 = .ok (.iload_n 1, 1) := by decide +kernel
theorem dX6_get_1 : decode cX6_get 1 = .ok (.ifCond .lt 21, 3) := by decide +kernel
theorem dX6_get_4 : decode cX6_get 4 = .ok (.iload_n 1, 1) := by decide +kernel
theorem dX6_get_5 : decode cX6_get 5 = .ok (.aload_n 0, 1) := by decide +kernel
theorem dX6_get_6 : decode cX6_get 6 = .ok (.getfield 13, 3) := by decide +kernel
theorem dX6_get_9 : decode cX6_get 9 = .ok (.arraylength, 1) := by decide +kernel
theorem dX6_get_10 : decode cX6_get 10 = .ok (.if_icmp .ge 12, 3) := by decide +kernel
theorem dX6_get_13 : decode cX6_get 13 = .ok (.aload_n 0, 1) := by decide +kernel
theorem dX6_get_14 : decode cX6_get 14 = .ok (.getfield 13, 3) := by decide +kernel
theorem dX6_get_17 : decode cX6_get 17 = .ok (.iload_n 1, 1) := by decide +kernel
theorem dX6_get_18 : decode cX6_get 18 = .ok (.iaload, 1) := by decide +kernel
theorem dX6_get_19 : decode cX6_get 19 = .ok (.goto 4, 3) := by decide +kernel
theorem dX6_get_22 : decode cX6_get 22 = .ok (.iconst 0, 1) := by decide +kernel
theorem dX6_get_23 : decode cX6_get 23 = .ok (.ireturn, 1) := by decide +kernel
theorem dX6_set_0 : decode cX6_set 0 = .ok (.iload_n 1, 1) := by decide +kernel
theorem dX6_set_1 : decode cX6_set 1 = .ok (.ifCond .lt 19, 3) := by decide +kernel
theorem dX6_set_4 : decode cX6_set 4 = .ok (.iload_n 1, 1) := by decide +kernel
theorem dX6_set_5 : decode cX6_set 5 = .ok (.aload_n 0, 1) := by decide +kernel
theorem dX6_set_6 : decode cX6_set 6 = .ok (.getfield 13, 3) := by decide +kernel
theorem dX6_set_9 : decode cX6_set 9 = .ok (.arraylength, 1) := by decide +kernel
theorem dX6_set_10 : decode cX6_set 10 = .ok (.if_icmp .ge 10, 3) := by decide +kernel
theorem dX6_set_13 : decode cX6_set 13 = .ok (.aload_n 0, 1) := by decide +kernel
theorem dX6_set_14 : decode cX6_set 14 = .ok (.getfield 13, 3) := by decide +kernel
theorem dX6_set_17 : decode cX6_set 17 = .ok (.iload_n 1, 1) := by decide +kernel
theorem dX6_set_18 : decode cX6_set 18 = .ok (.iload_n 2, 1) := by decide +kernel
theorem dX6_set_19 : decode cX6_set 19 = .ok (.iastore, 1) := by decide +kernel
theorem dX6_set_20 : decode cX6_set 20 = .ok (.return_, 1) := by decide +kernel
set_option maxRecDepth 20000 in
theorem ggX6_fill_J7_fill_53178 : GoodIn wsX6_fill wsJ7_fill_53178 := goodIn_r _ [5] (by decide +kernel) (by decide +kernel)
set_option maxRecDepth 20000 in
theorem gX6_fill_J7_fill_53178 : GoodIn wsX6_fill (va_wsS RX6 19 yJ7_fill_53178 wsJ7_fill_53178) := goodIn_app (goodIn_of _ (by decide +kernel)) ggX6_fill_J7_fill_53178
theorem dX6_fill_0 : decode cX6_fill 0 = .ok (.aload_n 0, 1) := by decide +kernel
theorem dX6_fill_1 : decode cX6_fill 1 = .ok (.getfield 13, 3) := by decide +kernel
theorem dX6_fill_4 : decode cX6_fill 4 = .ok (.iload_n 1, 1) := by decide +kernel
theorem dX6_fill_5 : decode cX6_fill 5 = .ok (.invokestatic 19, 3) := by decide +kernel
theorem dX6_fill_8 : decode cX6_fill 8 = .ok (.return_, 1) := by decide +kernel
set_option maxRecDepth 20000 in
theorem ggX7_init_X4_init : GoodIn wsX7_init wsX4_init := goodIn_r _ [25, 26, 2, 3, 27, 21, 22, 28, 29, 30, 31, 32, 33, 34, 35, 36, 37, 101, 72, 73] (by decide +kernel) (by decide +kernel)
set_option maxRecDepth 20000 in
theorem gX7_init_X4_init_n9 : GoodIn wsX7_init (wsX4_init) := ggX7_init_X4_init
set_option maxRecDepth 20000 in
theorem ggX7_init_X0_init : GoodIn wsX7_init wsX0_init := goodIn_r _ [39, 40, 2, 3, 41, 42, 43, 44, 45, 21, 22, 46, 47, 48, 49, 50, 51, 52, 53, 54, 55, 56, 57, 29, 30, 31, 32, 33, 34, 35, 36, 37, 102, 103, 104, 105, 106, 81, 82, 83, 84, 85, 86, 87, 88, 89, 101] (by decide +kernel) (by decide +kernel)
set_option maxRecDepth 20000 in
theorem gX7_init_X0_init_n18 : GoodIn wsX7_init (wsX0_init) := ggX7_init_X0_init
set_option maxRecDepth 20000 in
theorem ggX7_init_X5_init : GoodIn wsX7_init wsX5_init := goodIn_r _ [59, 60, 2, 3, 61, 62, 90, 91, 92] (by decide +kernel) (by decide +kernel)
set_option maxRecDepth 20000 in
theorem gX7_init_X5_init_n25 : GoodIn wsX7_init (wsX5_init) := ggX7_init_X5_init
set_option maxRecDepth 20000 in
theorem ggX7_init_X1_init : GoodIn wsX7_init wsX1_init := goodIn_r _ [64, 65, 2, 3, 66, 42, 43, 67, 68, 21, 22, 69, 70, 71, 51, 52, 53, 54, 55, 56, 57, 29, 30, 31, 32, 33, 34, 35, 36, 37, 102, 103, 104, 105, 106, 93, 94, 95, 96, 97, 98, 99, 100, 101] (by decide +kernel) (by decide +kernel)
set_option maxRecDepth 20000 in
theorem gX7_init_X1_init_n32 : GoodIn wsX7_init (wsX1_init) := ggX7_init_X1_init
set_option maxRecDepth 20000 in
theorem ggX7_init_X6_init : GoodIn wsX7_init wsX6_init := goodIn_r _ [30, 31, 2, 3, 32, 33, 34, 35, 36, 37, 101] (by decide +kernel) (by decide +kernel)
set_option maxRecDepth 20000 in
theorem gX7_init_X6_init_n39 : GoodIn wsX7_init (wsX6_init) := ggX7_init_X6_init
theorem dX7_init_0 : decode cX7_init 0 = .ok (.aload_n 0, 1) := by decide +kernel
theorem dX7_init_1 : decode cX7_init 1 = .ok (.invokespecial 1, 3) := by decide +kernel
theorem dX7_init_4 : decode cX7_init 4 = .ok (.aload_n 0, 1) := by decide +kernel
theorem dX7_init_5 : decode cX7_init 5 = .ok (.new 7, 3) := by decide +kernel
theorem dX7_init_8 : decode cX7_init 8 = .ok (.dup, 1) := by decide +kernel
theorem dX7_init_9 : decode cX7_init 9 = .ok (.invokespecial 9, 3) := by decide +kernel
theorem dX7_init_12 : decode cX7_init 12 = .ok (.putfield 10, 3) := by decide +kernel
theorem dX7_init_15 : decode cX7_init 15 = .ok (.aload_n 0, 1) := by decide +kernel
theorem dX7_init_16 : decode cX7_init 16 = .ok (.new 16, 3) := by decide +kernel
theorem dX7_init_19 : decode cX7_init 19 = .ok (.dup, 1) := by decide +kernel
theorem dX7_init_20 : decode cX7_init 20 = .ok (.invokespecial 18, 3) := by decide +kernel
theorem dX7_init_23 : decode cX7_init 23 = .ok (.putfield 19, 3) := by decide +kernel
theorem dX7_init_26 : decode cX7_init 26 = .ok (.aload_n 0, 1) := by decide +kernel
theorem dX7_init_27 : decode cX7_init 27 = .ok (.new 23, 3) := by decide +kernel
theorem dX7_init_30 : decode cX7_init 30 = .ok (.dup, 1) := by decide +kernel
theorem dX7_init_31 : decode cX7_init 31 = .ok (.invokespecial 25, 3) := by decide +kernel
theorem dX7_init_34 : decode cX7_init 34 = .ok (.putfield 26, 3) := by decide +kernel
theorem dX7_init_37 : decode cX7_init 37 = .ok (.aload_n 0, 1) := by decide +kernel
theorem dX7_init_38 : decode cX7_init 38 = .ok (.new 30, 3) := by decide +kernel
theorem dX7_init_41 : decode cX7_init 41 = .ok (.dup, 1) := by decide +kernel
theorem dX7_init_42 : decode cX7_init 42 = .ok (.invokespecial 32, 3) := by decide +kernel
theorem dX7_init_45 : decode cX7_init 45 = .ok (.putfield 33, 3) := by decide +kernel
theorem dX7_init_48 : decode cX7_init 48 = .ok (.aload_n 0, 1) := by decide +kernel
theorem dX7_init_49 : decode cX7_init 49 = .ok (.new 37, 3) := by decide +kernel
theorem dX7_init_52 : decode cX7_init 52 = .ok (.dup, 1) := by decide +kernel
theorem dX7_init_53 : decode cX7_init 53 = .ok (.bipush 120, 2) := by decide +kernel
theorem dX7_init_55 : decode cX7_init 55 = .ok (.invokespecial 39, 3) := by decide +kernel
theorem dX7_init_58 : decode cX7_init 58 = .ok (.putfield 42, 3) := by decide +kernel
theorem dX7_init_61 : decode cX7_init 61 = .ok (.return_, 1) := by decide +kernel
set_option maxRecDepth 20000 in
theorem ggX7_add_X7_requireKey : GoodIn wsX7_add wsX7_requireKey := goodIn_ca (goodIn_r _ [7, 8, 9, 10] (by decide +kernel) (by decide +kernel)) (goodIn_sub (fun _ h => List.mem_cons_of_mem _ (List.mem_append_right _ h)) (by decide +kernel))
set_option maxRecDepth 20000 in
theorem gX7_add_X7_requireKey : GoodIn wsX7_add (va_wsS RX7 46 yX7_requireKey wsX7_requireKey) := goodIn_app (goodIn_of _ (by decide +kernel)) ggX7_add_X7_requireKey
set_option maxRecDepth 20000 in
theorem ggX7_add_X7_requireOpen : GoodIn wsX7_add wsX7_requireOpen := goodIn_ca (goodIn_r _ [14, 1, 2, 15, 41, 42, 43, 44, 45, 46, 47] (by decide +kernel) (by decide +kernel)) (goodIn_sub (fun _ h => List.mem_cons_of_mem _ (List.mem_append_left _ (List.mem_append_right _ h))) (by decide +kernel))
set_option maxRecDepth 20000 in
theorem gX7_add_X7_requireOpen : GoodIn wsX7_add (wsV RX7 49 RX7 yX7_requireOpen wsX7_requireOpen) := goodIn_app (goodIn_of _ (by decide +kernel)) ggX7_add_X7_requireOpen
set_option maxRecDepth 20000 in
theorem ggX7_add_X4_holds : GoodIn wsX7_add wsX4_holds := goodIn_r _ [19, 20, 21, 22, 23, 24, 17, 25, 26, 27, 28, 29, 30, 48, 49, 50] (by decide +kernel) (by decide +kernel)
set_option maxRecDepth 20000 in
theorem gX7_add_X4_holds_n52 : GoodIn wsX7_add (wsX4_holds) := ggX7_add_X4_holds
set_option maxRecDepth 20000 in
theorem ggX7_add_X7_requireRoomFor : GoodIn wsX7_add wsX7_requireRoomFor := goodIn_ca (goodIn_r _ [34, 1, 2, 3, 41, 42, 43, 44, 45, 46, 47, 48, 49] (by decide +kernel) (by decide +kernel)) (goodIn_sub (fun _ h => List.mem_cons_of_mem _ (List.mem_append_left _ (List.mem_append_right _ h))) (by decide +kernel))
set_option maxRecDepth 20000 in
theorem gX7_add_X7_requireRoomFor : GoodIn wsX7_add (wsV RX7 63 RX7 yX7_requireRoomFor wsX7_requireRoomFor) := goodIn_app (goodIn_of _ (by decide +kernel)) ggX7_add_X7_requireRoomFor
set_option maxRecDepth 20000 in
theorem ggX7_add_X4_insert : GoodIn wsX7_add wsX4_insert := goodIn_r _ [37, 20, 21, 22, 23, 24, 17, 25, 26, 27, 28, 29, 30, 38, 39, 40, 48, 49, 50] (by decide +kernel) (by decide +kernel)
set_option maxRecDepth 20000 in
theorem gX7_add_X4_insert_n66 : GoodIn wsX7_add (wsX4_insert) := ggX7_add_X4_insert
theorem dX7_add_0 : decode cX7_add 0 = .ok (.iload_n 1, 1) := by decide +kernel
theorem dX7_add_1 : decode cX7_add 1 = .ok (.invokestatic 46, 3) := by decide +kernel
theorem dX7_add_4 : decode cX7_add 4 = .ok (.aload_n 0, 1) := by decide +kernel
theorem dX7_add_5 : decode cX7_add 5 = .ok (.invokevirtual 49, 3) := by decide +kernel
theorem dX7_add_8 : decode cX7_add 8 = .ok (.aload_n 0, 1) := by decide +kernel
theorem dX7_add_9 : decode cX7_add 9 = .ok (.getfield 10, 3) := by decide +kernel
theorem dX7_add_12 : decode cX7_add 12 = .ok (.iload_n 1, 1) := by decide +kernel
theorem dX7_add_13 : decode cX7_add 13 = .ok (.invokevirtual 52, 3) := by decide +kernel
theorem dX7_add_16 : decode cX7_add 16 = .ok (.ifCond .eq 13, 3) := by decide +kernel
theorem dX7_add_19 : decode cX7_add 19 = .ok (.new 56, 3) := by decide +kernel
theorem dX7_add_22 : decode cX7_add 22 = .ok (.dup, 1) := by decide +kernel
theorem dX7_add_23 : decode cX7_add 23 = .ok (.ldc 58, 2) := by decide +kernel
theorem dX7_add_25 : decode cX7_add 25 = .ok (.invokespecial 60, 3) := by decide +kernel
theorem dX7_add_28 : decode cX7_add 28 = .ok (.athrow, 1) := by decide +kernel
theorem dX7_add_29 : decode cX7_add 29 = .ok (.aload_n 0, 1) := by decide +kernel
theorem dX7_add_30 : decode cX7_add 30 = .ok (.iconst 1, 1) := by decide +kernel
theorem dX7_add_31 : decode cX7_add 31 = .ok (.invokevirtual 63, 3) := by decide +kernel
theorem dX7_add_34 : decode cX7_add 34 = .ok (.aload_n 0, 1) := by decide +kernel
theorem dX7_add_35 : decode cX7_add 35 = .ok (.getfield 10, 3) := by decide +kernel
theorem dX7_add_38 : decode cX7_add 38 = .ok (.iload_n 1, 1) := by decide +kernel
theorem dX7_add_39 : decode cX7_add 39 = .ok (.invokevirtual 66, 3) := by decide +kernel
theorem dX7_add_42 : decode cX7_add 42 = .ok (.aload_n 0, 1) := by decide +kernel
theorem dX7_add_43 : decode cX7_add 43 = .ok (.getfield 10, 3) := by decide +kernel
theorem dX7_add_46 : decode cX7_add 46 = .ok (.getfield 69, 3) := by decide +kernel
theorem dX7_add_49 : decode cX7_add 49 = .ok (.ireturn, 1) := by decide +kernel
set_option maxRecDepth 20000 in
theorem ggX7_addLine_X7_requireLine : GoodIn wsX7_addLine wsX7_requireLine := goodIn_ca (goodIn_r _ [5, 6, 7, 8, 9, 4, 10, 11] (by decide +kernel) (by decide +kernel)) (goodIn_sub (fun _ h => List.mem_cons_of_mem _ (List.mem_append_left _ (List.mem_append_right _ h))) (by decide +kernel))
set_option maxRecDepth 20000 in
theorem gX7_addLine_X7_requireLine : GoodIn wsX7_addLine (va_wsS RX7 73 yX7_requireLine wsX7_requireLine) := goodIn_app (goodIn_of _ (by decide +kernel)) ggX7_addLine_X7_requireLine
set_option maxRecDepth 20000 in
theorem ggX7_addLine_X7_requireOpen : GoodIn wsX7_addLine wsX7_requireOpen := goodIn_ca (goodIn_r _ [15, 16, 17, 18, 48, 49, 50, 51, 52, 53, 54] (by decide +kernel) (by decide +kernel)) (goodIn_sub (fun _ h => List.mem_cons_of_mem _ (List.mem_append_right _ h)) (by decide +kernel))
set_option maxRecDepth 20000 in
theorem gX7_addLine_X7_requireOpen : GoodIn wsX7_addLine (wsV RX7 49 RX7 yX7_requireOpen wsX7_requireOpen) := goodIn_app (goodIn_of _ (by decide +kernel)) ggX7_addLine_X7_requireOpen
set_option maxRecDepth 20000 in
theorem ggX7_addLine_X7_newInLine : GoodIn wsX7_addLine wsX7_newInLine := goodIn_r _ [22, 1, 23, 24, 25, 26, 27, 28, 29, 30, 31, 32, 33, 34, 35, 36, 37, 48, 49, 50, 51, 52, 53, 54, 55, 56, 57] (by decide +kernel) (by decide +kernel)
set_option maxRecDepth 20000 in
theorem gX7_addLine_X7_newInLine : GoodIn wsX7_addLine (wsV RX7 77 RX7 yX7_newInLine wsX7_newInLine) := goodIn_app (goodIn_of _ (by decide +kernel)) ggX7_addLine_X7_newInLine
set_option maxRecDepth 20000 in
theorem ggX7_addLine_X7_requireRoomFor : GoodIn wsX7_addLine wsX7_requireRoomFor := goodIn_ca (goodIn_r _ [41, 16, 17, 1, 48, 49, 50, 51, 52, 53, 54, 55, 56] (by decide +kernel) (by decide +kernel)) (goodIn_sub (fun _ h => List.mem_cons_of_mem _ (List.mem_append_right _ h)) (by decide +kernel))
set_option maxRecDepth 20000 in
theorem gX7_addLine_X7_requireRoomFor : GoodIn wsX7_addLine (wsV RX7 63 RX7 yX7_requireRoomFor wsX7_requireRoomFor) := goodIn_app (goodIn_of _ (by decide +kernel)) ggX7_addLine_X7_requireRoomFor
set_option maxRecDepth 20000 in
theorem ggX7_addLine_X4_holds : GoodIn wsX7_addLine wsX4_holds := goodIn_r _ [26, 27, 28, 29, 30, 31, 24, 32, 33, 34, 35, 36, 37, 55, 56, 57] (by decide +kernel) (by decide +kernel)
set_option maxRecDepth 20000 in
theorem gX7_addLine_X4_holds_n52 : GoodIn wsX7_addLine (wsX4_holds) := ggX7_addLine_X4_holds
set_option maxRecDepth 20000 in
theorem ggX7_addLine_X4_insert : GoodIn wsX7_addLine wsX4_insert := goodIn_r _ [44, 27, 28, 29, 30, 31, 24, 32, 33, 34, 35, 36, 37, 45, 46, 47, 55, 56, 57] (by decide +kernel) (by decide +kernel)
set_option maxRecDepth 20000 in
theorem gX7_addLine_X4_insert_n66 : GoodIn wsX7_addLine (wsX4_insert) := ggX7_addLine_X4_insert
theorem dX7_addLine_0 : decode cX7_addLine 0 = .ok (.iload_n 1, 1) := by decide +kernel
theorem dX7_addLine_1 : decode cX7_addLine 1 = .ok (.iload_n 2, 1) := by decide +kernel
theorem dX7_addLine_2 : decode cX7_addLine 2 = .ok (.iload_n 3, 1) := by decide +kernel
theorem dX7_addLine_3 : decode cX7_addLine 3 = .ok (.invokestatic 73, 3) := by decide +kernel
theorem dX7_addLine_6 : decode cX7_addLine 6 = .ok (.aload_n 0, 1) := by decide +kernel
theorem dX7_addLine_7 : decode cX7_addLine 7 = .ok (.invokevirtual 49, 3) := by decide +kernel
theorem dX7_addLine_10 : decode cX7_addLine 10 = .ok (.aload_n 0, 1) := by decide +kernel
theorem dX7_addLine_11 : decode cX7_addLine 11 = .ok (.aload_n 0, 1) := by decide +kernel
theorem dX7_addLine_12 : decode cX7_addLine 12 = .ok (.iload_n 1, 1) := by decide +kernel
theorem dX7_addLine_13 : decode cX7_addLine 13 = .ok (.iload_n 2, 1) := by decide +kernel
theorem dX7_addLine_14 : decode cX7_addLine 14 = .ok (.iload_n 3, 1) := by decide +kernel
theorem dX7_addLine_15 : decode cX7_addLine 15 = .ok (.invokevirtual 77, 3) := by decide +kernel
theorem dX7_addLine_18 : decode cX7_addLine 18 = .ok (.invokevirtual 63, 3) := by decide +kernel
theorem dX7_addLine_21 : decode cX7_addLine 21 = .ok (.iconst 0, 1) := by decide +kernel
theorem dX7_addLine_22 : decode cX7_addLine 22 = .ok (.istore 4, 2) := by decide +kernel
theorem dX7_addLine_24 : decode cX7_addLine 24 = .ok (.iload 4, 2) := by decide +kernel
theorem dX7_addLine_26 : decode cX7_addLine 26 = .ok (.iload_n 3, 1) := by decide +kernel
theorem dX7_addLine_27 : decode cX7_addLine 27 = .ok (.if_icmp .ge 38, 3) := by decide +kernel
theorem dX7_addLine_30 : decode cX7_addLine 30 = .ok (.iload_n 1, 1) := by decide +kernel
theorem dX7_addLine_31 : decode cX7_addLine 31 = .ok (.iload 4, 2) := by decide +kernel
theorem dX7_addLine_33 : decode cX7_addLine 33 = .ok (.iload_n 2, 1) := by decide +kernel
theorem dX7_addLine_34 : decode cX7_addLine 34 = .ok (.imul, 1) := by decide +kernel
theorem dX7_addLine_35 : decode cX7_addLine 35 = .ok (.iadd, 1) := by decide +kernel
theorem dX7_addLine_36 : decode cX7_addLine 36 = .ok (.istore 5, 2) := by decide +kernel
theorem dX7_addLine_38 : decode cX7_addLine 38 = .ok (.aload_n 0, 1) := by decide +kernel
theorem dX7_addLine_39 : decode cX7_addLine 39 = .ok (.getfield 10, 3) := by decide +kernel
theorem dX7_addLine_42 : decode cX7_addLine 42 = .ok (.iload 5, 2) := by decide +kernel
theorem dX7_addLine_44 : decode cX7_addLine 44 = .ok (.invokevirtual 52, 3) := by decide +kernel
theorem dX7_addLine_47 : decode cX7_addLine 47 = .ok (.ifCond .ne 12, 3) := by decide +kernel
theorem dX7_addLine_50 : decode cX7_addLine 50 = .ok (.aload_n 0, 1) := by decide +kernel
theorem dX7_addLine_51 : decode cX7_addLine 51 = .ok (.getfield 10, 3) := by decide +kernel
theorem dX7_addLine_54 : decode cX7_addLine 54 = .ok (.iload 5, 2) := by decide +kernel
theorem dX7_addLine_56 : decode cX7_addLine 56 = .ok (.invokevirtual 66, 3) := by decide +kernel
theorem dX7_addLine_59 : decode cX7_addLine 59 = .ok (.iinc 4 1, 3) := by decide +kernel
theorem dX7_addLine_62 : decode cX7_addLine 62 = .ok (.goto (-38), 3) := by decide +kernel
theorem dX7_addLine_65 : decode cX7_addLine 65 = .ok (.aload_n 0, 1) := by decide +kernel
theorem dX7_addLine_66 : decode cX7_addLine 66 = .ok (.getfield 10, 3) := by decide +kernel
theorem dX7_addLine_69 : decode cX7_addLine 69 = .ok (.getfield 69, 3) := by decide +kernel
theorem dX7_addLine_72 : decode cX7_addLine 72 = .ok (.ireturn, 1) := by decide +kernel
set_option maxRecDepth 20000 in
theorem ggX7_remove_X7_requireKey : GoodIn wsX7_remove wsX7_requireKey := goodIn_ca (goodIn_r _ [7, 8, 9, 10] (by decide +kernel) (by decide +kernel)) (goodIn_sub (fun _ h => List.mem_cons_of_mem _ (List.mem_append_right _ h)) (by decide +kernel))
set_option maxRecDepth 20000 in
theorem gX7_remove_X7_requireKey : GoodIn wsX7_remove (va_wsS RX7 46 yX7_requireKey wsX7_requireKey) := goodIn_app (goodIn_of _ (by decide +kernel)) ggX7_remove_X7_requireKey
set_option maxRecDepth 20000 in
theorem ggX7_remove_X7_requireOpen : GoodIn wsX7_remove wsX7_requireOpen := goodIn_ca (goodIn_r _ [14, 1, 2, 15, 37, 38, 39, 40, 41, 42, 43] (by decide +kernel) (by decide +kernel)) (goodIn_sub (fun _ h => List.mem_cons_of_mem _ (List.mem_append_left _ (List.mem_append_right _ h))) (by decide +kernel))
set_option maxRecDepth 20000 in
theorem gX7_remove_X7_requireOpen : GoodIn wsX7_remove (wsV RX7 49 RX7 yX7_requireOpen wsX7_requireOpen) := goodIn_app (goodIn_of _ (by decide +kernel)) ggX7_remove_X7_requireOpen
set_option maxRecDepth 20000 in
theorem ggX7_remove_X4_holds : GoodIn wsX7_remove wsX4_holds := goodIn_r _ [19, 20, 21, 22, 23, 24, 17, 25, 26, 27, 28, 29, 30, 44, 45, 46] (by decide +kernel) (by decide +kernel)
set_option maxRecDepth 20000 in
theorem gX7_remove_X4_holds_n52 : GoodIn wsX7_remove (wsX4_holds) := ggX7_remove_X4_holds
set_option maxRecDepth 20000 in
theorem ggX7_remove_X4_delete : GoodIn wsX7_remove wsX4_delete := goodIn_r _ [33, 20, 21, 22, 23, 24, 17, 25, 26, 27, 28, 29, 30, 34, 35, 36, 44, 45, 46] (by decide +kernel) (by decide +kernel)
set_option maxRecDepth 20000 in
theorem gX7_remove_X4_delete_n83 : GoodIn wsX7_remove (wsX4_delete) := ggX7_remove_X4_delete
theorem dX7_remove_0 : decode cX7_remove 0 = .ok (.iload_n 1, 1) := by decide +kernel
theorem dX7_remove_1 : decode cX7_remove 1 = .ok (.invokestatic 46, 3) := by decide +kernel
theorem dX7_remove_4 : decode cX7_remove 4 = .ok (.aload_n 0, 1) := by decide +kernel
theorem dX7_remove_5 : decode cX7_remove 5 = .ok (.invokevirtual 49, 3) := by decide +kernel
theorem dX7_remove_8 : decode cX7_remove 8 = .ok (.aload_n 0, 1) := by decide +kernel
theorem dX7_remove_9 : decode cX7_remove 9 = .ok (.getfield 10, 3) := by decide +kernel
theorem dX7_remove_12 : decode cX7_remove 12 = .ok (.iload_n 1, 1) := by decide +kernel
theorem dX7_remove_13 : decode cX7_remove 13 = .ok (.invokevirtual 52, 3) := by decide +kernel
theorem dX7_remove_16 : decode cX7_remove 16 = .ok (.ifCond .ne 13, 3) := by decide +kernel
theorem dX7_remove_19 : decode cX7_remove 19 = .ok (.new 56, 3) := by decide +kernel
theorem dX7_remove_22 : decode cX7_remove 22 = .ok (.dup, 1) := by decide +kernel
theorem dX7_remove_23 : decode cX7_remove 23 = .ok (.ldc 81, 2) := by decide +kernel
theorem dX7_remove_25 : decode cX7_remove 25 = .ok (.invokespecial 60, 3) := by decide +kernel
theorem dX7_remove_28 : decode cX7_remove 28 = .ok (.athrow, 1) := by decide +kernel
theorem dX7_remove_29 : decode cX7_remove 29 = .ok (.aload_n 0, 1) := by decide +kernel
theorem dX7_remove_30 : decode cX7_remove 30 = .ok (.getfield 10, 3) := by decide +kernel
theorem dX7_remove_33 : decode cX7_remove 33 = .ok (.iload_n 1, 1) := by decide +kernel
theorem dX7_remove_34 : decode cX7_remove 34 = .ok (.invokevirtual 83, 3) := by decide +kernel
theorem dX7_remove_37 : decode cX7_remove 37 = .ok (.aload_n 0, 1) := by decide +kernel
theorem dX7_remove_38 : decode cX7_remove 38 = .ok (.getfield 10, 3) := by decide +kernel
theorem dX7_remove_41 : decode cX7_remove 41 = .ok (.getfield 69, 3) := by decide +kernel
theorem dX7_remove_44 : decode cX7_remove 44 = .ok (.ireturn, 1) := by decide +kernel
theorem dX7_keys_0 : decode cX7_keys 0 = .ok (.aload_n 0, 1) := by decide +kernel
theorem dX7_keys_1 : decode cX7_keys 1 = .ok (.getfield 10, 3) := by decide +kernel
theorem dX7_keys_4 : decode cX7_keys 4 = .ok (.getfield 69, 3) := by decide +kernel
theorem dX7_keys_7 : decode cX7_keys 7 = .ok (.ireturn, 1) := by decide +kernel
set_option maxRecDepth 20000 in
theorem ggX7_has_X7_requireKey : GoodIn wsX7_has wsX7_requireKey := goodIn_ca (goodIn_r _ [5, 6, 7, 8] (by decide +kernel) (by decide +kernel)) (goodIn_sub (fun _ h => List.mem_cons_of_mem _ (List.mem_append_right _ h)) (by decide +kernel))
set_option maxRecDepth 20000 in
theorem gX7_has_X7_requireKey : GoodIn wsX7_has (va_wsS RX7 46 yX7_requireKey wsX7_requireKey) := goodIn_app (goodIn_of _ (by decide +kernel)) ggX7_has_X7_requireKey
set_option maxRecDepth 20000 in
theorem ggX7_has_X4_holds : GoodIn wsX7_has wsX4_holds := goodIn_r _ [12, 13, 14, 15, 16, 17, 10, 18, 19, 20, 21, 22, 23, 31, 32, 33] (by decide +kernel) (by decide +kernel)
set_option maxRecDepth 20000 in
theorem gX7_has_X4_holds_n52 : GoodIn wsX7_has (wsX4_holds) := ggX7_has_X4_holds
theorem dX7_has_0 : decode cX7_has 0 = .ok (.iload_n 1, 1) := by decide +kernel
theorem dX7_has_1 : decode cX7_has 1 = .ok (.invokestatic 46, 3) := by decide +kernel
theorem dX7_has_4 : decode cX7_has 4 = .ok (.aload_n 0, 1) := by decide +kernel
theorem dX7_has_5 : decode cX7_has 5 = .ok (.getfield 10, 3) := by decide +kernel
theorem dX7_has_8 : decode cX7_has 8 = .ok (.iload_n 1, 1) := by decide +kernel
theorem dX7_has_9 : decode cX7_has 9 = .ok (.invokevirtual 52, 3) := by decide +kernel
theorem dX7_has_12 : decode cX7_has 12 = .ok (.ireturn, 1) := by decide +kernel
set_option maxRecDepth 20000 in
theorem ggX7_keyAt_X7_requireBelow : GoodIn wsX7_keyAt wsX7_requireBelow := goodIn_ca (goodIn_r _ [5, 6, 7] (by decide +kernel) (by decide +kernel)) (goodIn_sub (fun _ h => List.mem_cons_of_mem _ (List.mem_append_right _ h)) (by decide +kernel))
set_option maxRecDepth 20000 in
theorem gX7_keyAt_X7_requireBelow : GoodIn wsX7_keyAt (va_wsS RX7 86 yX7_requireBelow wsX7_requireBelow) := goodIn_app (goodIn_of _ (by decide +kernel)) ggX7_keyAt_X7_requireBelow
set_option maxRecDepth 20000 in
theorem ggX7_keyAt_X4_at : GoodIn wsX7_keyAt wsX4_at := goodIn_r _ [11, 12, 13, 14, 15, 16, 17, 25, 26, 27] (by decide +kernel) (by decide +kernel)
set_option maxRecDepth 20000 in
theorem gX7_keyAt_X4_at_n90 : GoodIn wsX7_keyAt (wsX4_at) := ggX7_keyAt_X4_at
theorem dX7_keyAt_0 : decode cX7_keyAt 0 = .ok (.iload_n 1, 1) := by decide +kernel
theorem dX7_keyAt_1 : decode cX7_keyAt 1 = .ok (.aload_n 0, 1) := by decide +kernel
theorem dX7_keyAt_2 : decode cX7_keyAt 2 = .ok (.getfield 10, 3) := by decide +kernel
theorem dX7_keyAt_5 : decode cX7_keyAt 5 = .ok (.getfield 69, 3) := by decide +kernel
theorem dX7_keyAt_8 : decode cX7_keyAt 8 = .ok (.invokestatic 86, 3) := by decide +kernel
theorem dX7_keyAt_11 : decode cX7_keyAt 11 = .ok (.aload_n 0, 1) := by decide +kernel
theorem dX7_keyAt_12 : decode cX7_keyAt 12 = .ok (.getfield 10, 3) := by decide +kernel
theorem dX7_keyAt_15 : decode cX7_keyAt 15 = .ok (.iload_n 1, 1) := by decide +kernel
theorem dX7_keyAt_16 : decode cX7_keyAt 16 = .ok (.invokevirtual 90, 3) := by decide +kernel
theorem dX7_keyAt_19 : decode cX7_keyAt 19 = .ok (.ireturn, 1) := by decide +kernel
set_option maxRecDepth 20000 in
theorem ggX7_build_X7_requireOpen : GoodIn wsX7_build wsX7_requireOpen := goodIn_ca (goodIn_r _ [14, 3, 4, 9, 216, 217, 218, 219, 220, 221, 222] (by decide +kernel) (by decide +kernel)) (goodIn_sub (fun _ h => List.mem_cons_of_mem _ (List.mem_append_right _ h)) (by decide +kernel))
set_option maxRecDepth 20000 in
theorem gX7_build_X7_requireOpen : GoodIn wsX7_build (wsV RX7 49 RX7 yX7_requireOpen wsX7_requireOpen) := goodIn_app (goodIn_of _ (by decide +kernel)) ggX7_build_X7_requireOpen
set_option maxRecDepth 20000 in
theorem ggX7_build_X0_settle : GoodIn wsX7_build wsX0_settle := goodIn_r _ [18, 19, 20, 21, 22, 13, 23, 24, 25, 26, 16, 27, 28, 29, 30, 31, 32, 33, 34, 35, 36, 37, 38, 39, 40, 41, 42, 43, 44, 45, 46, 47, 48, 49, 50, 51, 52, 53, 54, 55, 56, 57, 58, 59, 60, 61, 62, 63, 64, 65, 66, 67, 68, 69, 70, 71, 72, 73, 74, 75, 76, 77, 78, 79, 80, 81, 82, 83, 84, 85, 86, 87, 88, 89, 90, 91, 92, 93, 94, 95, 96, 97, 98, 99, 100, 101, 102, 103, 104, 105, 106, 107, 108, 109, 110, 111, 112, 113, 114, 115, 116, 117, 118, 119, 120, 121, 122, 123, 124, 125, 126, 127, 128, 129, 130, 131, 132, 133, 134, 223, 224, 225, 226, 227, 228, 229, 230, 231, 232, 233, 234, 235, 236, 237, 238, 239] (by decide +kernel) (by decide +kernel)
set_option maxRecDepth 20000 in
theorem gX7_build_X0_settle_n103 : GoodIn wsX7_build (wsX0_settle) := ggX7_build_X0_settle
set_option maxRecDepth 20000 in
theorem ggX7_build_X1_settle : GoodIn wsX7_build wsX1_settle := goodIn_r _ [138, 139, 140, 141, 142, 143, 144, 136, 145, 146, 147, 148, 32, 33, 34, 35, 36, 37, 38, 39, 40, 41, 42, 43, 44, 45, 46, 47, 48, 49, 50, 51, 52, 53, 54, 55, 149, 150, 151, 152, 61, 62, 63, 64, 65, 66, 67, 68, 69, 13, 70, 71, 72, 73, 74, 75, 76, 77, 83, 84, 85, 86, 153, 154, 155, 156, 157, 158, 159, 160, 161, 162, 163, 164, 165, 166, 167, 168, 169, 170, 171, 172, 109, 110, 111, 105, 106, 107, 124, 125, 126, 173, 174, 175, 223, 224, 240, 241, 242, 243, 244, 245, 246, 247, 234, 235, 236, 237, 238, 239] (by decide +kernel) (by decide +kernel)
set_option maxRecDepth 20000 in
theorem gX7_build_X1_settle_n107 : GoodIn wsX7_build (wsX1_settle) := ggX7_build_X1_settle
set_option maxRecDepth 20000 in
theorem ggX7_build_X7_keepFingerprints : GoodIn wsX7_build wsX7_keepFingerprints := goodIn_r _ [179, 180, 5, 181, 182, 183, 184, 13, 185, 6, 53, 40, 54, 55, 43, 48, 49, 50, 51, 52, 186, 187, 188, 189, 190, 61, 62, 63, 64, 65, 66, 67, 68, 75, 76, 77, 216, 217, 218, 219, 220, 221, 222, 223, 224, 225, 226, 227, 228, 229, 230, 231, 232, 233, 239] (by decide +kernel) (by decide +kernel)
set_option maxRecDepth 20000 in
theorem gX7_build_X7_keepFingerprints : GoodIn wsX7_build (wsV RX7 112 RX7 yX7_keepFingerprints wsX7_keepFingerprints) := goodIn_app (goodIn_of _ (by decide +kernel)) ggX7_build_X7_keepFingerprints
set_option maxRecDepth 20000 in
theorem ggX7_build_X5_pack : GoodIn wsX7_build wsX5_pack := goodIn_r _ [194, 195, 196, 197, 198, 199, 46, 200, 201, 202, 192, 203, 204, 98, 99, 100, 53, 40, 54, 55, 43, 205, 206, 207, 22, 13, 23, 208, 209, 210, 211, 212, 213, 214, 215, 248, 249, 250, 239] (by decide +kernel) (by decide +kernel)
set_option maxRecDepth 20000 in
theorem gX7_build_X5_pack_n121 : GoodIn wsX7_build (wsX5_pack) := ggX7_build_X5_pack
theorem dX7_build_0 : decode cX7_build 0 = .ok (.iload_n 1, 1) := by decide +kernel
theorem dX7_build_1 : decode cX7_build 1 = .ok (.iconst 1, 1) := by decide +kernel
theorem dX7_build_2 : decode cX7_build 2 = .ok (.if_icmp .lt 9, 3) := by decide +kernel
theorem dX7_build_5 : decode cX7_build 5 = .ok (.iload_n 1, 1) := by decide +kernel
theorem dX7_build_6 : decode cX7_build 6 = .ok (.bipush 6, 2) := by decide +kernel
theorem dX7_build_8 : decode cX7_build 8 = .ok (.if_icmp .le 13, 3) := by decide +kernel
theorem dX7_build_11 : decode cX7_build 11 = .ok (.new 94, 3) := by decide +kernel
theorem dX7_build_14 : decode cX7_build 14 = .ok (.dup, 1) := by decide +kernel
theorem dX7_build_15 : decode cX7_build 15 = .ok (.ldc 96, 2) := by decide +kernel
theorem dX7_build_17 : decode cX7_build 17 = .ok (.invokespecial 98, 3) := by decide +kernel
theorem dX7_build_20 : decode cX7_build 20 = .ok (.athrow, 1) := by decide +kernel
theorem dX7_build_21 : decode cX7_build 21 = .ok (.iload_n 2, 1) := by decide +kernel
theorem dX7_build_22 : decode cX7_build 22 = .ok (.iconst 1, 1) := by decide +kernel
theorem dX7_build_23 : decode cX7_build 23 = .ok (.if_icmp .lt 9, 3) := by decide +kernel
theorem dX7_build_26 : decode cX7_build 26 = .ok (.iload_n 2, 1) := by decide +kernel
theorem dX7_build_27 : decode cX7_build 27 = .ok (.bipush 12, 2) := by decide +kernel
theorem dX7_build_29 : decode cX7_build 29 = .ok (.if_icmp .le 13, 3) := by decide +kernel
theorem dX7_build_32 : decode cX7_build 32 = .ok (.new 94, 3) := by decide +kernel
theorem dX7_build_35 : decode cX7_build 35 = .ok (.dup, 1) := by decide +kernel
theorem dX7_build_36 : decode cX7_build 36 = .ok (.ldc 99, 2) := by decide +kernel
theorem dX7_build_38 : decode cX7_build 38 = .ok (.invokespecial 98, 3) := by decide +kernel
theorem dX7_build_41 : decode cX7_build 41 = .ok (.athrow, 1) := by decide +kernel
theorem dX7_build_42 : decode cX7_build 42 = .ok (.aload_n 0, 1) := by decide +kernel
theorem dX7_build_43 : decode cX7_build 43 = .ok (.invokevirtual 49, 3) := by decide +kernel
theorem dX7_build_46 : decode cX7_build 46 = .ok (.aload_n 0, 1) := by decide +kernel
theorem dX7_build_47 : decode cX7_build 47 = .ok (.getfield 10, 3) := by decide +kernel
theorem dX7_build_50 : decode cX7_build 50 = .ok (.getfield 69, 3) := by decide +kernel
theorem dX7_build_53 : decode cX7_build 53 = .ok (.ifCond .ne 13, 3) := by decide +kernel
theorem dX7_build_56 : decode cX7_build 56 = .ok (.new 56, 3) := by decide +kernel
theorem dX7_build_59 : decode cX7_build 59 = .ok (.dup, 1) := by decide +kernel
theorem dX7_build_60 : decode cX7_build 60 = .ok (.ldc 101, 2) := by decide +kernel
theorem dX7_build_62 : decode cX7_build 62 = .ok (.invokespecial 60, 3) := by decide +kernel
theorem dX7_build_65 : decode cX7_build 65 = .ok (.athrow, 1) := by decide +kernel
theorem dX7_build_66 : decode cX7_build 66 = .ok (.aload_n 0, 1) := by decide +kernel
theorem dX7_build_67 : decode cX7_build 67 = .ok (.getfield 19, 3) := by decide +kernel
theorem dX7_build_70 : decode cX7_build 70 = .ok (.aload_n 0, 1) := by decide +kernel
theorem dX7_build_71 : decode cX7_build 71 = .ok (.getfield 10, 3) := by decide +kernel
theorem dX7_build_74 : decode cX7_build 74 = .ok (.iload_n 1, 1) := by decide +kernel
theorem dX7_build_75 : decode cX7_build 75 = .ok (.invokevirtual 103, 3) := by decide +kernel
theorem dX7_build_78 : decode cX7_build 78 = .ok (.ifCond .eq 17, 3) := by decide +kernel
theorem dX7_build_81 : decode cX7_build 81 = .ok (.aload_n 0, 1) := by decide +kernel
theorem dX7_build_82 : decode cX7_build 82 = .ok (.getfield 33, 3) := by decide +kernel
theorem dX7_build_85 : decode cX7_build 85 = .ok (.aload_n 0, 1) := by decide +kernel
theorem dX7_build_86 : decode cX7_build 86 = .ok (.getfield 10, 3) := by decide +kernel
theorem dX7_build_89 : decode cX7_build 89 = .ok (.invokevirtual 107, 3) := by decide +kernel
theorem dX7_build_92 : decode cX7_build 92 = .ok (.ifCond .ne 13, 3) := by decide +kernel
theorem dX7_build_95 : decode cX7_build 95 = .ok (.new 56, 3) := by decide +kernel
theorem dX7_build_98 : decode cX7_build 98 = .ok (.dup, 1) := by decide +kernel
theorem dX7_build_99 : decode cX7_build 99 = .ok (.ldc 110, 2) := by decide +kernel
theorem dX7_build_101 : decode cX7_build 101 = .ok (.invokespecial 60, 3) := by decide +kernel
theorem dX7_build_104 : decode cX7_build 104 = .ok (.athrow, 1) := by decide +kernel
theorem dX7_build_105 : decode cX7_build 105 = .ok (.aload_n 0, 1) := by decide +kernel
theorem dX7_build_106 : decode cX7_build 106 = .ok (.iload_n 2, 1) := by decide +kernel
theorem dX7_build_107 : decode cX7_build 107 = .ok (.invokevirtual 112, 3) := by decide +kernel
theorem dX7_build_110 : decode cX7_build 110 = .ok (.aload_n 0, 1) := by decide +kernel
theorem dX7_build_111 : decode cX7_build 111 = .ok (.getfield 26, 3) := by decide +kernel
theorem dX7_build_114 : decode cX7_build 114 = .ok (.aload_n 0, 1) := by decide +kernel
theorem dX7_build_115 : decode cX7_build 115 = .ok (.getfield 19, 3) := by decide +kernel
theorem dX7_build_118 : decode cX7_build 118 = .ok (.getfield 115, 3) := by decide +kernel
theorem dX7_build_121 : decode cX7_build 121 = .ok (.aload_n 0, 1) := by decide +kernel
theorem dX7_build_122 : decode cX7_build 122 = .ok (.getfield 19, 3) := by decide +kernel
theorem dX7_build_125 : decode cX7_build 125 = .ok (.getfield 118, 3) := by decide +kernel
theorem dX7_build_128 : decode cX7_build 128 = .ok (.invokevirtual 121, 3) := by decide +kernel
theorem dX7_build_131 : decode cX7_build 131 = .ok (.aload_n 0, 1) := by decide +kernel
theorem dX7_build_132 : decode cX7_build 132 = .ok (.iconst 1, 1) := by decide +kernel
theorem dX7_build_133 : decode cX7_build 133 = .ok (.putfield 125, 3) := by decide +kernel
theorem dX7_build_136 : decode cX7_build 136 = .ok (.aload_n 0, 1) := by decide +kernel
theorem dX7_build_137 : decode cX7_build 137 = .ok (.getfield 19, 3) := by decide +kernel
theorem dX7_build_140 : decode cX7_build 140 = .ok (.getfield 129, 3) := by decide +kernel
theorem dX7_build_143 : decode cX7_build 143 = .ok (.ireturn, 1) := by decide +kernel
set_option maxRecDepth 20000 in
theorem ggX7_reopen_X7_requireBuilt : GoodIn wsX7_reopen wsX7_requireBuilt := goodIn_ca (goodIn_r _ [6, 7, 8, 1, 9, 10, 11, 12, 13, 14, 15] (by decide +kernel) (by decide +kernel)) (goodIn_sub (fun _ h => List.mem_cons_of_mem _ (List.mem_append_right _ h)) (by decide +kernel))
set_option maxRecDepth 20000 in
theorem gX7_reopen_X7_requireBuilt : GoodIn wsX7_reopen (wsV RX7 132 RX7 yX7_requireBuilt wsX7_requireBuilt) := goodIn_app (goodIn_of _ (by decide +kernel)) ggX7_reopen_X7_requireBuilt
theorem dX7_reopen_0 : decode cX7_reopen 0 = .ok (.aload_n 0, 1) := by decide +kernel
theorem dX7_reopen_1 : decode cX7_reopen 1 = .ok (.invokevirtual 132, 3) := by decide +kernel
theorem dX7_reopen_4 : decode cX7_reopen 4 = .ok (.aload_n 0, 1) := by decide +kernel
theorem dX7_reopen_5 : decode cX7_reopen 5 = .ok (.iconst 0, 1) := by decide +kernel
theorem dX7_reopen_6 : decode cX7_reopen 6 = .ok (.putfield 125, 3) := by decide +kernel
theorem dX7_reopen_9 : decode cX7_reopen 9 = .ok (.return_, 1) := by decide +kernel
theorem dX7_isBuilt_0 : decode cX7_isBuilt 0 = .ok (.aload_n 0, 1) := by decide +kernel
theorem dX7_isBuilt_1 : decode cX7_isBuilt 1 = .ok (.getfield 125, 3) := by decide +kernel
theorem dX7_isBuilt_4 : decode cX7_isBuilt 4 = .ok (.ireturn, 1) := by decide +kernel
set_option maxRecDepth 20000 in
theorem ggX7_number_X7_requireKey : GoodIn wsX7_number wsX7_requireKey := goodIn_ca (goodIn_r _ [5, 6, 7, 8] (by decide +kernel) (by decide +kernel)) (goodIn_sub (fun _ h => List.mem_cons_of_mem _ (List.mem_append_left _ (List.mem_append_right _ h))) (by decide +kernel))
set_option maxRecDepth 20000 in
theorem gX7_number_X7_requireKey : GoodIn wsX7_number (va_wsS RX7 46 yX7_requireKey wsX7_requireKey) := goodIn_app (goodIn_of _ (by decide +kernel)) ggX7_number_X7_requireKey
set_option maxRecDepth 20000 in
theorem ggX7_number_X7_requireBuilt : GoodIn wsX7_number wsX7_requireBuilt := goodIn_ca (goodIn_r _ [12, 13, 14, 15, 50, 51, 52, 53, 54, 55, 56] (by decide +kernel) (by decide +kernel)) (goodIn_sub (fun _ h => List.mem_cons_of_mem _ (List.mem_append_right _ h)) (by decide +kernel))
set_option maxRecDepth 20000 in
theorem gX7_number_X7_requireBuilt : GoodIn wsX7_number (wsV RX7 132 RX7 yX7_requireBuilt wsX7_requireBuilt) := goodIn_app (goodIn_of _ (by decide +kernel)) ggX7_number_X7_requireBuilt
set_option maxRecDepth 20000 in
theorem ggX7_number_X0_numberOf : GoodIn wsX7_number wsX0_numberOf := goodIn_r _ [19, 20, 21, 22, 23, 24, 25, 26, 17, 27, 28, 29, 30, 31, 32, 33, 34, 35, 36, 37, 38, 4, 39, 40, 41, 42, 43, 44, 45, 46, 47, 48, 49, 57, 58, 59, 60, 61, 62, 63, 64, 65, 66] (by decide +kernel) (by decide +kernel)
set_option maxRecDepth 20000 in
theorem gX7_number_X0_numberOf_n135 : GoodIn wsX7_number (wsX0_numberOf) := ggX7_number_X0_numberOf
theorem dX7_number_0 : decode cX7_number 0 = .ok (.iload_n 1, 1) := by decide +kernel
theorem dX7_number_1 : decode cX7_number 1 = .ok (.invokestatic 46, 3) := by decide +kernel
theorem dX7_number_4 : decode cX7_number 4 = .ok (.aload_n 0, 1) := by decide +kernel
theorem dX7_number_5 : decode cX7_number 5 = .ok (.invokevirtual 132, 3) := by decide +kernel
theorem dX7_number_8 : decode cX7_number 8 = .ok (.aload_n 0, 1) := by decide +kernel
theorem dX7_number_9 : decode cX7_number 9 = .ok (.getfield 19, 3) := by decide +kernel
theorem dX7_number_12 : decode cX7_number 12 = .ok (.iload_n 1, 1) := by decide +kernel
theorem dX7_number_13 : decode cX7_number 13 = .ok (.invokevirtual 135, 3) := by decide +kernel
theorem dX7_number_16 : decode cX7_number 16 = .ok (.ireturn, 1) := by decide +kernel
set_option maxRecDepth 20000 in
theorem ggX7_find_X7_requireKey : GoodIn wsX7_find wsX7_requireKey := goodIn_ca (goodIn_r _ [4, 5, 6, 7] (by decide +kernel) (by decide +kernel)) (goodIn_sub (fun _ h => List.mem_cons_of_mem _ (List.mem_append_left _ (List.mem_append_right _ h))) (by decide +kernel))
set_option maxRecDepth 20000 in
theorem gX7_find_X7_requireKey : GoodIn wsX7_find (va_wsS RX7 46 yX7_requireKey wsX7_requireKey) := goodIn_app (goodIn_of _ (by decide +kernel)) ggX7_find_X7_requireKey
set_option maxRecDepth 20000 in
theorem ggX7_find_X7_requireBuilt : GoodIn wsX7_find wsX7_requireBuilt := goodIn_ca (goodIn_r _ [11, 12, 13, 14, 61, 62, 63, 64, 65, 66, 67] (by decide +kernel) (by decide +kernel)) (goodIn_sub (fun _ h => List.mem_cons_of_mem _ (List.mem_append_right _ h)) (by decide +kernel))
set_option maxRecDepth 20000 in
theorem gX7_find_X7_requireBuilt : GoodIn wsX7_find (wsV RX7 132 RX7 yX7_requireBuilt wsX7_requireBuilt) := goodIn_app (goodIn_of _ (by decide +kernel)) ggX7_find_X7_requireBuilt
set_option maxRecDepth 20000 in
theorem ggX7_find_X7_lookUp : GoodIn wsX7_find wsX7_lookUp := goodIn_r _ [18, 19, 20, 21, 22, 23, 24, 25, 26, 27, 28, 29, 30, 31, 32, 33, 34, 35, 36, 37, 38, 39, 40, 41, 42, 43, 3, 44, 45, 46, 47, 48, 49, 50, 51, 52, 53, 54, 55, 56, 57, 58, 59, 60, 61, 62, 63, 64, 65, 66, 67, 68, 69, 70, 71, 72, 73, 74, 75, 76, 77] (by decide +kernel) (by decide +kernel)
set_option maxRecDepth 20000 in
theorem gX7_find_X7_lookUp : GoodIn wsX7_find (wsV RX7 138 RX7 yX7_lookUp wsX7_lookUp) := goodIn_app (goodIn_of _ (by decide +kernel)) ggX7_find_X7_lookUp
theorem dX7_find_0 : decode cX7_find 0 = .ok (.iload_n 1, 1) := by decide +kernel
theorem dX7_find_1 : decode cX7_find 1 = .ok (.invokestatic 46, 3) := by decide +kernel
theorem dX7_find_4 : decode cX7_find 4 = .ok (.aload_n 0, 1) := by decide +kernel
theorem dX7_find_5 : decode cX7_find 5 = .ok (.invokevirtual 132, 3) := by decide +kernel
theorem dX7_find_8 : decode cX7_find 8 = .ok (.aload_n 0, 1) := by decide +kernel
theorem dX7_find_9 : decode cX7_find 9 = .ok (.iload_n 1, 1) := by decide +kernel
theorem dX7_find_10 : decode cX7_find 10 = .ok (.invokevirtual 138, 3) := by decide +kernel
theorem dX7_find_13 : decode cX7_find 13 = .ok (.ireturn, 1) := by decide +kernel
set_option maxRecDepth 20000 in
theorem ggX7_strangers_X7_requireKey : GoodIn wsX7_strangers wsX7_requireKey := goodIn_ca (goodIn_r _ [6, 1, 2, 7] (by decide +kernel) (by decide +kernel)) (goodIn_sub (fun _ h => List.mem_cons_of_mem _ (List.mem_append_left _ (List.mem_append_right _ h))) (by decide +kernel))
set_option maxRecDepth 20000 in
theorem gX7_strangers_X7_requireKey : GoodIn wsX7_strangers (va_wsS RX7 46 yX7_requireKey wsX7_requireKey) := goodIn_app (goodIn_of _ (by decide +kernel)) ggX7_strangers_X7_requireKey
set_option maxRecDepth 20000 in
theorem ggX7_strangers_X7_requireBuilt : GoodIn wsX7_strangers wsX7_requireBuilt := goodIn_ca (goodIn_r _ [11, 12, 13, 14, 71, 72, 73, 74, 75, 76, 77] (by decide +kernel) (by decide +kernel)) (goodIn_sub (fun _ h => List.mem_cons_of_mem _ (List.mem_append_right _ h)) (by decide +kernel))
set_option maxRecDepth 20000 in
theorem gX7_strangers_X7_requireBuilt : GoodIn wsX7_strangers (wsV RX7 132 RX7 yX7_requireBuilt wsX7_requireBuilt) := goodIn_app (goodIn_of _ (by decide +kernel)) ggX7_strangers_X7_requireBuilt
set_option maxRecDepth 20000 in
theorem ggX7_strangers_X7_lookUp : GoodIn wsX7_strangers wsX7_lookUp := goodIn_r _ [18, 19, 20, 21, 22, 23, 24, 25, 26, 27, 28, 29, 30, 31, 32, 33, 34, 35, 36, 37, 38, 39, 40, 41, 42, 43, 5, 44, 45, 46, 47, 48, 49, 50, 51, 52, 53, 54, 55, 56, 57, 58, 59, 60, 71, 72, 73, 74, 75, 76, 77, 78, 79, 80, 81, 82, 83, 84, 85, 86, 87] (by decide +kernel) (by decide +kernel)
set_option maxRecDepth 20000 in
theorem gX7_strangers_X7_lookUp : GoodIn wsX7_strangers (wsV RX7 138 RX7 yX7_lookUp wsX7_lookUp) := goodIn_app (goodIn_of _ (by decide +kernel)) ggX7_strangers_X7_lookUp
set_option maxRecDepth 20000 in
theorem ggX7_strangers_X7_keyWithNumber : GoodIn wsX7_strangers wsX7_keyWithNumber := goodIn_r _ [64, 65, 19, 45, 46, 47, 48, 49, 66, 67, 68, 69, 70, 71, 72, 73, 74, 75, 76, 77, 78, 79, 80, 81, 82, 83, 84, 85, 86, 87, 88, 89] (by decide +kernel) (by decide +kernel)
set_option maxRecDepth 20000 in
theorem gX7_strangers_X7_keyWithNumber : GoodIn wsX7_strangers (wsV RX7 143 RX7 yX7_keyWithNumber wsX7_keyWithNumber) := goodIn_app (goodIn_of _ (by decide +kernel)) ggX7_strangers_X7_keyWithNumber
theorem dX7_strangers_0 : decode cX7_strangers 0 = .ok (.iload_n 1, 1) := by decide +kernel
theorem dX7_strangers_1 : decode cX7_strangers 1 = .ok (.invokestatic 46, 3) := by decide +kernel
theorem dX7_strangers_4 : decode cX7_strangers 4 = .ok (.iload_n 2, 1) := by decide +kernel
theorem dX7_strangers_5 : decode cX7_strangers 5 = .ok (.invokestatic 46, 3) := by decide +kernel
theorem dX7_strangers_8 : decode cX7_strangers 8 = .ok (.iload_n 2, 1) := by decide +kernel
theorem dX7_strangers_9 : decode cX7_strangers 9 = .ok (.iload_n 1, 1) := by decide +kernel
theorem dX7_strangers_10 : decode cX7_strangers 10 = .ok (.if_icmp .lt 12, 3) := by decide +kernel
theorem dX7_strangers_13 : decode cX7_strangers 13 = .ok (.iload_n 2, 1) := by decide +kernel
theorem dX7_strangers_14 : decode cX7_strangers 14 = .ok (.iload_n 1, 1) := by decide +kernel
theorem dX7_strangers_15 : decode cX7_strangers 15 = .ok (.isub, 1) := by decide +kernel
theorem dX7_strangers_16 : decode cX7_strangers 16 = .ok (.sipush 4999, 3) := by decide +kernel
theorem dX7_strangers_19 : decode cX7_strangers 19 = .ok (.if_icmp .le 13, 3) := by decide +kernel
theorem dX7_strangers_22 : decode cX7_strangers 22 = .ok (.new 94, 3) := by decide +kernel
theorem dX7_strangers_25 : decode cX7_strangers 25 = .ok (.dup, 1) := by decide +kernel
theorem dX7_strangers_26 : decode cX7_strangers 26 = .ok (.ldc 141, 2) := by decide +kernel
theorem dX7_strangers_28 : decode cX7_strangers 28 = .ok (.invokespecial 98, 3) := by decide +kernel
theorem dX7_strangers_31 : decode cX7_strangers 31 = .ok (.athrow, 1) := by decide +kernel
theorem dX7_strangers_32 : decode cX7_strangers 32 = .ok (.aload_n 0, 1) := by decide +kernel
theorem dX7_strangers_33 : decode cX7_strangers 33 = .ok (.invokevirtual 132, 3) := by decide +kernel
theorem dX7_strangers_36 : decode cX7_strangers 36 = .ok (.iconst 0, 1) := by decide +kernel
theorem dX7_strangers_37 : decode cX7_strangers 37 = .ok (.istore_n 3, 1) := by decide +kernel
theorem dX7_strangers_38 : decode cX7_strangers 38 = .ok (.iload_n 1, 1) := by decide +kernel
theorem dX7_strangers_39 : decode cX7_strangers 39 = .ok (.istore 4, 2) := by decide +kernel
theorem dX7_strangers_41 : decode cX7_strangers 41 = .ok (.iload 4, 2) := by decide +kernel
theorem dX7_strangers_43 : decode cX7_strangers 43 = .ok (.iload_n 2, 1) := by decide +kernel
theorem dX7_strangers_44 : decode cX7_strangers 44 = .ok (.if_icmp .gt 37, 3) := by decide +kernel
theorem dX7_strangers_47 : decode cX7_strangers 47 = .ok (.aload_n 0, 1) := by decide +kernel
theorem dX7_strangers_48 : decode cX7_strangers 48 = .ok (.iload 4, 2) := by decide +kernel
theorem dX7_strangers_50 : decode cX7_strangers 50 = .ok (.invokevirtual 138, 3) := by decide +kernel
theorem dX7_strangers_53 : decode cX7_strangers 53 = .ok (.istore 5, 2) := by decide +kernel
theorem dX7_strangers_55 : decode cX7_strangers 55 = .ok (.iload 5, 2) := by decide +kernel
