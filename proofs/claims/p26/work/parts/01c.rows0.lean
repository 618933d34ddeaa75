set_option maxRecDepth 20000 in
theorem ggX0_init_X2_init : GoodIn wsX0_init wsX2_init := goodIn_r _ [17, 18, 2, 3, 19, 9, 10, 20, 21, 22, 23, 24, 25, 26, 27, 28, 29, 30, 31, 46, 32, 33, 34, 35, 36] (by decide +kernel) (by decide +kernel)
set_option maxRecDepth 20000 in
theorem gX0_init_X2_init_n11 : GoodIn wsX0_init (wsX2_init) := ggX0_init_X2_init
set_option maxRecDepth 20000 in
theorem ggX0_init_X6_init : GoodIn wsX0_init wsX6_init := goodIn_r _ [24, 25, 2, 3, 26, 27, 28, 29, 30, 31, 46] (by decide +kernel) (by decide +kernel)
set_option maxRecDepth 20000 in
theorem gX0_init_X6_init_n22 : GoodIn wsX0_init (wsX6_init) := ggX0_init_X6_init
theorem dX0_init_0 : decode cX0_init 0 = .ok (.aload_n 0, 1) := by decide +kernel
theorem dX0_init_1 : decode cX0_init 1 = .ok (.invokespecial 3, 3) := by decide +kernel
theorem dX0_init_4 : decode cX0_init 4 = .ok (.aload_n 0, 1) := by decide +kernel
theorem dX0_init_5 : decode cX0_init 5 = .ok (.new 9, 3) := by decide +kernel
theorem dX0_init_8 : decode cX0_init 8 = .ok (.dup, 1) := by decide +kernel
theorem dX0_init_9 : decode cX0_init 9 = .ok (.bipush 120, 2) := by decide +kernel
theorem dX0_init_11 : decode cX0_init 11 = .ok (.bipush 120, 2) := by decide +kernel
theorem dX0_init_13 : decode cX0_init 13 = .ok (.invokespecial 11, 3) := by decide +kernel
theorem dX0_init_16 : decode cX0_init 16 = .ok (.putfield 14, 3) := by decide +kernel
theorem dX0_init_19 : decode cX0_init 19 = .ok (.aload_n 0, 1) := by decide +kernel
theorem dX0_init_20 : decode cX0_init 20 = .ok (.new 20, 3) := by decide +kernel
theorem dX0_init_23 : decode cX0_init 23 = .ok (.dup, 1) := by decide +kernel
theorem dX0_init_24 : decode cX0_init 24 = .ok (.bipush 120, 2) := by decide +kernel
theorem dX0_init_26 : decode cX0_init 26 = .ok (.invokespecial 22, 3) := by decide +kernel
theorem dX0_init_29 : decode cX0_init 29 = .ok (.putfield 25, 3) := by decide +kernel
theorem dX0_init_32 : decode cX0_init 32 = .ok (.aload_n 0, 1) := by decide +kernel
theorem dX0_init_33 : decode cX0_init 33 = .ok (.new 20, 3) := by decide +kernel
theorem dX0_init_36 : decode cX0_init 36 = .ok (.dup, 1) := by decide +kernel
theorem dX0_init_37 : decode cX0_init 37 = .ok (.bipush 120, 2) := by decide +kernel
theorem dX0_init_39 : decode cX0_init 39 = .ok (.invokespecial 22, 3) := by decide +kernel
theorem dX0_init_42 : decode cX0_init 42 = .ok (.putfield 29, 3) := by decide +kernel
theorem dX0_init_45 : decode cX0_init 45 = .ok (.aload_n 0, 1) := by decide +kernel
theorem dX0_init_46 : decode cX0_init 46 = .ok (.new 20, 3) := by decide +kernel
theorem dX0_init_49 : decode cX0_init 49 = .ok (.dup, 1) := by decide +kernel
theorem dX0_init_50 : decode cX0_init 50 = .ok (.bipush 120, 2) := by decide +kernel
theorem dX0_init_52 : decode cX0_init 52 = .ok (.invokespecial 22, 3) := by decide +kernel
theorem dX0_init_55 : decode cX0_init 55 = .ok (.putfield 32, 3) := by decide +kernel
theorem dX0_init_58 : decode cX0_init 58 = .ok (.aload_n 0, 1) := by decide +kernel
theorem dX0_init_59 : decode cX0_init 59 = .ok (.new 20, 3) := by decide +kernel
theorem dX0_init_62 : decode cX0_init 62 = .ok (.dup, 1) := by decide +kernel
theorem dX0_init_63 : decode cX0_init 63 = .ok (.bipush 120, 2) := by decide +kernel
theorem dX0_init_65 : decode cX0_init 65 = .ok (.invokespecial 22, 3) := by decide +kernel
theorem dX0_init_68 : decode cX0_init 68 = .ok (.putfield 35, 3) := by decide +kernel
theorem dX0_init_71 : decode cX0_init 71 = .ok (.aload_n 0, 1) := by decide +kernel
theorem dX0_init_72 : decode cX0_init 72 = .ok (.new 20, 3) := by decide +kernel
theorem dX0_init_75 : decode cX0_init 75 = .ok (.dup, 1) := by decide +kernel
theorem dX0_init_76 : decode cX0_init 76 = .ok (.bipush 120, 2) := by decide +kernel
theorem dX0_init_78 : decode cX0_init 78 = .ok (.invokespecial 22, 3) := by decide +kernel
theorem dX0_init_81 : decode cX0_init 81 = .ok (.putfield 38, 3) := by decide +kernel
theorem dX0_init_84 : decode cX0_init 84 = .ok (.return_, 1) := by decide +kernel
set_option maxRecDepth 20000 in
theorem ggX0_settle_X7_dividedUp : GoodIn wsX0_settle wsX7_dividedUp := goodIn_r _ [6] (by decide +kernel) (by decide +kernel)
set_option maxRecDepth 20000 in
theorem gX0_settle_X7_dividedUp_n50 : GoodIn wsX0_settle (wsX7_dividedUp) := ggX0_settle_X7_dividedUp
set_option maxRecDepth 20000 in
theorem ggX0_settle_X0_hashKeys : GoodIn wsX0_settle wsX0_hashKeys := goodIn_r _ [11, 12, 1, 2, 13, 14, 3, 15, 16, 17, 18, 19, 20, 21, 22, 23, 24, 25, 26, 27, 28, 29, 30, 31, 32, 33, 34, 35, 36, 37, 38, 39, 40, 41, 42, 10, 43, 44, 45, 46, 47, 48, 49, 50, 51, 52, 53, 5, 54, 55, 56, 57, 58, 59, 60, 61, 62, 63, 64, 65, 66, 67, 68, 69, 70, 121, 122, 123, 124, 125, 126, 127, 128, 129, 130, 131, 132, 133, 134, 135, 119, 120] (by decide +kernel) (by decide +kernel)
set_option maxRecDepth 20000 in
theorem gX0_settle_X0_hashKeys : GoodIn wsX0_settle (wsV RX0 60 RX0 yX0_hashKeys wsX0_hashKeys) := goodIn_app (goodIn_of _ (by decide +kernel)) ggX0_settle_X0_hashKeys
set_option maxRecDepth 20000 in
theorem ggX0_settle_X0_displaceAll : GoodIn wsX0_settle wsX0_displaceAll := goodIn_r _ [74, 75, 76, 2, 12, 23, 24, 25, 26, 27, 28, 29, 30, 31, 77, 78, 79, 10, 80, 81, 82, 83, 84, 85, 17, 86, 87, 88, 89, 90, 91, 22, 37, 38, 39, 92, 93, 94, 95, 96, 97, 98, 99, 1, 100, 101, 102, 103, 104, 105, 106, 107, 108, 109, 110, 70, 111, 112, 113, 114, 13, 15, 53, 5, 54, 115, 116, 117, 118, 59, 60, 61, 121, 122, 123, 124, 125, 126, 127, 128, 129, 135, 130, 131, 132, 133, 134] (by decide +kernel) (by decide +kernel)
set_option maxRecDepth 20000 in
theorem gX0_settle_X0_displaceAll : GoodIn wsX0_settle (wsV RX0 64 RX0 yX0_displaceAll wsX0_displaceAll) := goodIn_app (goodIn_of _ (by decide +kernel)) ggX0_settle_X0_displaceAll
theorem dX0_settle_0 : decode cX0_settle 0 = .ok (.aload_n 0, 1) := by decide +kernel
theorem dX0_settle_1 : decode cX0_settle 1 = .ok (.aload_n 1, 1) := by decide +kernel
theorem dX0_settle_2 : decode cX0_settle 2 = .ok (.getfield 41, 3) := by decide +kernel
theorem dX0_settle_5 : decode cX0_settle 5 = .ok (.putfield 47, 3) := by decide +kernel
theorem dX0_settle_8 : decode cX0_settle 8 = .ok (.aload_n 0, 1) := by decide +kernel
theorem dX0_settle_9 : decode cX0_settle 9 = .ok (.aload_n 0, 1) := by decide +kernel
theorem dX0_settle_10 : decode cX0_settle 10 = .ok (.getfield 47, 3) := by decide +kernel
theorem dX0_settle_13 : decode cX0_settle 13 = .ok (.iload_n 2, 1) := by decide +kernel
theorem dX0_settle_14 : decode cX0_settle 14 = .ok (.invokestatic 50, 3) := by decide +kernel
theorem dX0_settle_17 : decode cX0_settle 17 = .ok (.putfield 54, 3) := by decide +kernel
theorem dX0_settle_20 : decode cX0_settle 20 = .ok (.iconst 0, 1) := by decide +kernel
theorem dX0_settle_21 : decode cX0_settle 21 = .ok (.istore_n 3, 1) := by decide +kernel
theorem dX0_settle_22 : decode cX0_settle 22 = .ok (.iload_n 3, 1) := by decide +kernel
theorem dX0_settle_23 : decode cX0_settle 23 = .ok (.bipush 40, 2) := by decide +kernel
theorem dX0_settle_25 : decode cX0_settle 25 = .ok (.if_icmp .ge 28, 3) := by decide +kernel
theorem dX0_settle_28 : decode cX0_settle 28 = .ok (.aload_n 0, 1) := by decide +kernel
theorem dX0_settle_29 : decode cX0_settle 29 = .ok (.iload_n 3, 1) := by decide +kernel
theorem dX0_settle_30 : decode cX0_settle 30 = .ok (.putfield 57, 3) := by decide +kernel
theorem dX0_settle_33 : decode cX0_settle 33 = .ok (.aload_n 0, 1) := by decide +kernel
theorem dX0_settle_34 : decode cX0_settle 34 = .ok (.aload_n 1, 1) := by decide +kernel
theorem dX0_settle_35 : decode cX0_settle 35 = .ok (.invokevirtual 60, 3) := by decide +kernel
theorem dX0_settle_38 : decode cX0_settle 38 = .ok (.aload_n 0, 1) := by decide +kernel
theorem dX0_settle_39 : decode cX0_settle 39 = .ok (.invokevirtual 64, 3) := by decide +kernel
theorem dX0_settle_42 : decode cX0_settle 42 = .ok (.ifCond .eq 5, 3) := by decide +kernel
theorem dX0_settle_45 : decode cX0_settle 45 = .ok (.iconst 1, 1) := by decide +kernel
theorem dX0_settle_46 : decode cX0_settle 46 = .ok (.ireturn, 1) := by decide +kernel
theorem dX0_settle_47 : decode cX0_settle 47 = .ok (.iinc 3 1, 3) := by decide +kernel
theorem dX0_settle_50 : decode cX0_settle 50 = .ok (.goto (-28), 3) := by decide +kernel
theorem dX0_settle_53 : decode cX0_settle 53 = .ok (.iconst 0, 1) := by decide +kernel
theorem dX0_settle_54 : decode cX0_settle 54 = .ok (.ireturn, 1) := by decide +kernel
set_option maxRecDepth 20000 in
theorem ggX0_hashKeys_X2_restart : GoodIn wsX0_hashKeys wsX2_restart := goodIn_r _ [11, 12, 13, 14, 15, 16, 17, 18, 19, 20, 21, 22, 23, 74, 75, 76, 77, 78, 79] (by decide +kernel) (by decide +kernel)
set_option maxRecDepth 20000 in
theorem gX0_hashKeys_X2_restart_n68 : GoodIn wsX0_hashKeys (wsX2_restart) := ggX0_hashKeys_X2_restart
set_option maxRecDepth 20000 in
theorem ggX0_hashKeys_X4_at : GoodIn wsX0_hashKeys wsX4_at := goodIn_r _ [27, 28, 29, 16, 30, 31, 19, 80, 81, 79] (by decide +kernel) (by decide +kernel)
set_option maxRecDepth 20000 in
theorem gX0_hashKeys_X4_at_n71 : GoodIn wsX0_hashKeys (wsX4_at) := ggX0_hashKeys_X4_at
set_option maxRecDepth 20000 in
theorem ggX0_hashKeys_X0_bucketOf : GoodIn wsX0_hashKeys wsX0_bucketOf := goodIn_r _ [36, 37, 6, 3, 38, 39, 40, 41, 42, 43, 44, 45, 46, 47, 48, 65, 66, 67, 68, 69, 70, 71, 72, 73] (by decide +kernel) (by decide +kernel)
set_option maxRecDepth 20000 in
theorem gX0_hashKeys_X0_bucketOf : GoodIn wsX0_hashKeys (wsV RX0 75 RX0 yX0_bucketOf wsX0_bucketOf) := goodIn_app (goodIn_of _ (by decide +kernel)) ggX0_hashKeys_X0_bucketOf
set_option maxRecDepth 20000 in
theorem ggX0_hashKeys_X2_assign : GoodIn wsX0_hashKeys wsX2_assign := goodIn_r _ [51, 52, 14, 53, 16, 54, 55, 19, 29, 30, 31, 74, 75, 76, 77, 78, 79] (by decide +kernel) (by decide +kernel)
set_option maxRecDepth 20000 in
theorem gX0_hashKeys_X2_assign_n78 : GoodIn wsX0_hashKeys (wsX2_assign) := ggX0_hashKeys_X2_assign
set_option maxRecDepth 20000 in
theorem ggX0_hashKeys_X3_of : GoodIn wsX0_hashKeys wsX3_of := goodIn_r _ [41, 42, 43, 44, 45] (by decide +kernel) (by decide +kernel)
set_option maxRecDepth 20000 in
theorem gX0_hashKeys_X3_of_n87 : GoodIn wsX0_hashKeys (wsX3_of) := ggX0_hashKeys_X3_of
set_option maxRecDepth 20000 in
theorem ggX0_hashKeys_X6_set : GoodIn wsX0_hashKeys wsX6_set := goodIn_r _ [55, 19, 79] (by decide +kernel) (by decide +kernel)
set_option maxRecDepth 20000 in
theorem gX0_hashKeys_X6_set_n90 : GoodIn wsX0_hashKeys (wsX6_set) := ggX0_hashKeys_X6_set
set_option maxRecDepth 20000 in
theorem ggX0_hashKeys_X0_stepOf : GoodIn wsX0_hashKeys wsX0_stepOf := goodIn_r _ [59, 2, 60, 6, 38, 39, 40, 41, 42, 43, 44, 45, 46, 47, 48, 65, 66, 67, 68, 69, 70, 71, 72, 73] (by decide +kernel) (by decide +kernel)
set_option maxRecDepth 20000 in
theorem gX0_hashKeys_X0_stepOf : GoodIn wsX0_hashKeys (wsV RX0 93 RX0 yX0_stepOf wsX0_stepOf) := goodIn_app (goodIn_of _ (by decide +kernel)) ggX0_hashKeys_X0_stepOf
set_option maxRecDepth 20000 in
theorem ggX0_hashKeys_X2_arrange : GoodIn wsX0_hashKeys wsX2_arrange := goodIn_r _ [63, 13, 14, 12, 52, 64, 29, 16, 30, 31, 19, 53, 54, 55, 74, 75, 76, 77, 78, 79] (by decide +kernel) (by decide +kernel)
set_option maxRecDepth 20000 in
theorem gX0_hashKeys_X2_arrange_n96 : GoodIn wsX0_hashKeys (wsX2_arrange) := ggX0_hashKeys_X2_arrange
theorem dX0_hashKeys_0 : decode cX0_hashKeys 0 = .ok (.aload_n 0, 1) := by decide +kernel
theorem dX0_hashKeys_1 : decode cX0_hashKeys 1 = .ok (.getfield 14, 3) := by decide +kernel
theorem dX0_hashKeys_4 : decode cX0_hashKeys 4 = .ok (.aload_n 0, 1) := by decide +kernel
theorem dX0_hashKeys_5 : decode cX0_hashKeys 5 = .ok (.getfield 47, 3) := by decide +kernel
theorem dX0_hashKeys_8 : decode cX0_hashKeys 8 = .ok (.aload_n 0, 1) := by decide +kernel
theorem dX0_hashKeys_9 : decode cX0_hashKeys 9 = .ok (.getfield 54, 3) := by decide +kernel
theorem dX0_hashKeys_12 : decode cX0_hashKeys 12 = .ok (.invokevirtual 68, 3) := by decide +kernel
theorem dX0_hashKeys_15 : decode cX0_hashKeys 15 = .ok (.iconst 0, 1) := by decide +kernel
theorem dX0_hashKeys_16 : decode cX0_hashKeys 16 = .ok (.istore_n 2, 1) := by decide +kernel
theorem dX0_hashKeys_17 : decode cX0_hashKeys 17 = .ok (.iload_n 2, 1) := by decide +kernel
theorem dX0_hashKeys_18 : decode cX0_hashKeys 18 = .ok (.aload_n 0, 1) := by decide +kernel
theorem dX0_hashKeys_19 : decode cX0_hashKeys 19 = .ok (.getfield 47, 3) := by decide +kernel
theorem dX0_hashKeys_22 : decode cX0_hashKeys 22 = .ok (.if_icmp .ge 60, 3) := by decide +kernel
theorem dX0_hashKeys_25 : decode cX0_hashKeys 25 = .ok (.aload_n 1, 1) := by decide +kernel
theorem dX0_hashKeys_26 : decode cX0_hashKeys 26 = .ok (.iload_n 2, 1) := by decide +kernel
theorem dX0_hashKeys_27 : decode cX0_hashKeys 27 = .ok (.invokevirtual 71, 3) := by decide +kernel
theorem dX0_hashKeys_30 : decode cX0_hashKeys 30 = .ok (.istore_n 3, 1) := by decide +kernel
theorem dX0_hashKeys_31 : decode cX0_hashKeys 31 = .ok (.aload_n 0, 1) := by decide +kernel
theorem dX0_hashKeys_32 : decode cX0_hashKeys 32 = .ok (.getfield 14, 3) := by decide +kernel
theorem dX0_hashKeys_35 : decode cX0_hashKeys 35 = .ok (.iload_n 2, 1) := by decide +kernel
theorem dX0_hashKeys_36 : decode cX0_hashKeys 36 = .ok (.aload_n 0, 1) := by decide +kernel
theorem dX0_hashKeys_37 : decode cX0_hashKeys 37 = .ok (.iload_n 3, 1) := by decide +kernel
theorem dX0_hashKeys_38 : decode cX0_hashKeys 38 = .ok (.invokevirtual 75, 3) := by decide +kernel
theorem dX0_hashKeys_41 : decode cX0_hashKeys 41 = .ok (.invokevirtual 78, 3) := by decide +kernel
theorem dX0_hashKeys_44 : decode cX0_hashKeys 44 = .ok (.aload_n 0, 1) := by decide +kernel
theorem dX0_hashKeys_45 : decode cX0_hashKeys 45 = .ok (.getfield 25, 3) := by decide +kernel
theorem dX0_hashKeys_48 : decode cX0_hashKeys 48 = .ok (.iload_n 2, 1) := by decide +kernel
theorem dX0_hashKeys_49 : decode cX0_hashKeys 49 = .ok (.getstatic 81, 3) := by decide +kernel
theorem dX0_hashKeys_52 : decode cX0_hashKeys 52 = .ok (.iload_n 3, 1) := by decide +kernel
theorem dX0_hashKeys_53 : decode cX0_hashKeys 53 = .ok (.aload_n 0, 1) := by decide +kernel
theorem dX0_hashKeys_54 : decode cX0_hashKeys 54 = .ok (.getfield 57, 3) := by decide +kernel
theorem dX0_hashKeys_57 : decode cX0_hashKeys 57 = .ok (.invokevirtual 87, 3) := by decide +kernel
theorem dX0_hashKeys_60 : decode cX0_hashKeys 60 = .ok (.invokevirtual 90, 3) := by decide +kernel
theorem dX0_hashKeys_63 : decode cX0_hashKeys 63 = .ok (.aload_n 0, 1) := by decide +kernel
theorem dX0_hashKeys_64 : decode cX0_hashKeys 64 = .ok (.getfield 29, 3) := by decide +kernel
theorem dX0_hashKeys_67 : decode cX0_hashKeys 67 = .ok (.iload_n 2, 1) := by decide +kernel
theorem dX0_hashKeys_68 : decode cX0_hashKeys 68 = .ok (.aload_n 0, 1) := by decide +kernel
theorem dX0_hashKeys_69 : decode cX0_hashKeys 69 = .ok (.iload_n 3, 1) := by decide +kernel
theorem dX0_hashKeys_70 : decode cX0_hashKeys 70 = .ok (.invokevirtual 93, 3) := by decide +kernel
theorem dX0_hashKeys_73 : decode cX0_hashKeys 73 = .ok (.invokevirtual 90, 3) := by decide +kernel
theorem dX0_hashKeys_76 : decode cX0_hashKeys 76 = .ok (.iinc 2 1, 3) := by decide +kernel
theorem dX0_hashKeys_79 : decode cX0_hashKeys 79 = .ok (.goto (-62), 3) := by decide +kernel
theorem dX0_hashKeys_82 : decode cX0_hashKeys 82 = .ok (.aload_n 0, 1) := by decide +kernel
theorem dX0_hashKeys_83 : decode cX0_hashKeys 83 = .ok (.getfield 14, 3) := by decide +kernel
theorem dX0_hashKeys_86 : decode cX0_hashKeys 86 = .ok (.invokevirtual 96, 3) := by decide +kernel
theorem dX0_hashKeys_89 : decode cX0_hashKeys 89 = .ok (.return_, 1) := by decide +kernel
set_option maxRecDepth 20000 in
theorem ggX0_displaceAll_X6_fill : GoodIn wsX0_displaceAll wsX6_fill := goodIn_r _ [8, 9, 10, 11, 12, 13, 81] (by decide +kernel) (by decide +kernel)
set_option maxRecDepth 20000 in
theorem gX0_displaceAll_X6_fill_n99 : GoodIn wsX0_displaceAll (wsX6_fill) := ggX0_displaceAll_X6_fill
set_option maxRecDepth 20000 in
theorem ggX0_displaceAll_X0_largestBucket : GoodIn wsX0_displaceAll wsX0_largestBucket := goodIn_r _ [18, 3, 4, 19, 20, 21, 22, 23, 24, 25, 26, 27, 28, 29, 30, 31, 32, 6, 33, 34, 9, 35, 36, 37, 38, 72, 73, 74, 75, 76, 77, 78, 79, 80, 82, 83, 84, 85, 86, 81] (by decide +kernel) (by decide +kernel)
set_option maxRecDepth 20000 in
theorem gX0_displaceAll_X0_largestBucket : GoodIn wsX0_displaceAll (wsV RX0 102 RX0 yX0_largestBucket wsX0_largestBucket) := goodIn_app (goodIn_of _ (by decide +kernel)) ggX0_displaceAll_X0_largestBucket
set_option maxRecDepth 20000 in
theorem ggX0_displaceAll_X2_sizeOf : GoodIn wsX0_displaceAll wsX2_sizeOf := goodIn_r _ [26, 27, 28, 29, 24, 30, 31, 32, 6, 33, 34, 9, 35, 36, 37, 38, 82, 83, 84, 85, 86, 81] (by decide +kernel) (by decide +kernel)
set_option maxRecDepth 20000 in
theorem gX0_displaceAll_X2_sizeOf_n106 : GoodIn wsX0_displaceAll (wsX2_sizeOf) := ggX0_displaceAll_X2_sizeOf
set_option maxRecDepth 20000 in
theorem ggX0_displaceAll_X0_displace : GoodIn wsX0_displaceAll wsX0_displace := goodIn_r _ [42, 43, 44, 45, 21, 46, 1, 47, 48, 49, 17, 50, 4, 2, 51, 36, 24, 37, 38, 31, 32, 6, 33, 34, 9, 28, 29, 30, 52, 53, 54, 55, 56, 57, 58, 59, 60, 61, 62, 63, 64, 65, 66, 67, 68, 69, 70, 71, 72, 73, 74, 75, 76, 77, 78, 79, 80, 82, 83, 84, 85, 86, 81] (by decide +kernel) (by decide +kernel)
set_option maxRecDepth 20000 in
theorem gX0_displaceAll_X0_displace : GoodIn wsX0_displaceAll (wsV RX0 109 RX0 yX0_displace wsX0_displace) := goodIn_app (goodIn_of _ (by decide +kernel)) ggX0_displaceAll_X0_displace
theorem dX0_displaceAll_0 : decode cX0_displaceAll 0 = .ok (.aload_n 0, 1) := by decide +kernel
theorem dX0_displaceAll_1 : decode cX0_displaceAll 1 = .ok (.getfield 35, 3) := by decide +kernel
theorem dX0_displaceAll_4 : decode cX0_displaceAll 4 = .ok (.iconst 0, 1) := by decide +kernel
theorem dX0_displaceAll_5 : decode cX0_displaceAll 5 = .ok (.invokevirtual 99, 3) := by decide +kernel
theorem dX0_displaceAll_8 : decode cX0_displaceAll 8 = .ok (.aload_n 0, 1) := by decide +kernel
theorem dX0_displaceAll_9 : decode cX0_displaceAll 9 = .ok (.getfield 38, 3) := by decide +kernel
theorem dX0_displaceAll_12 : decode cX0_displaceAll 12 = .ok (.iconst (-1), 1) := by decide +kernel
theorem dX0_displaceAll_13 : decode cX0_displaceAll 13 = .ok (.invokevirtual 99, 3) := by decide +kernel
theorem dX0_displaceAll_16 : decode cX0_displaceAll 16 = .ok (.aload_n 0, 1) := by decide +kernel
theorem dX0_displaceAll_17 : decode cX0_displaceAll 17 = .ok (.invokevirtual 102, 3) := by decide +kernel
theorem dX0_displaceAll_20 : decode cX0_displaceAll 20 = .ok (.istore_n 1, 1) := by decide +kernel
theorem dX0_displaceAll_21 : decode cX0_displaceAll 21 = .ok (.iload_n 1, 1) := by decide +kernel
theorem dX0_displaceAll_22 : decode cX0_displaceAll 22 = .ok (.ifCond .le 47, 3) := by decide +kernel
theorem dX0_displaceAll_25 : decode cX0_displaceAll 25 = .ok (.iconst 0, 1) := by decide +kernel
theorem dX0_displaceAll_26 : decode cX0_displaceAll 26 = .ok (.istore_n 2, 1) := by decide +kernel
theorem dX0_displaceAll_27 : decode cX0_displaceAll 27 = .ok (.iload_n 2, 1) := by decide +kernel
theorem dX0_displaceAll_28 : decode cX0_displaceAll 28 = .ok (.aload_n 0, 1) := by decide +kernel
theorem dX0_displaceAll_29 : decode cX0_displaceAll 29 = .ok (.getfield 54, 3) := by decide +kernel
theorem dX0_displaceAll_32 : decode cX0_displaceAll 32 = .ok (.if_icmp .ge 31, 3) := by decide +kernel
theorem dX0_displaceAll_35 : decode cX0_displaceAll 35 = .ok (.aload_n 0, 1) := by decide +kernel
theorem dX0_displaceAll_36 : decode cX0_displaceAll 36 = .ok (.getfield 14, 3) := by decide +kernel
theorem dX0_displaceAll_39 : decode cX0_displaceAll 39 = .ok (.iload_n 2, 1) := by decide +kernel
theorem dX0_displaceAll_40 : decode cX0_displaceAll 40 = .ok (.invokevirtual 106, 3) := by decide +kernel
theorem dX0_displaceAll_43 : decode cX0_displaceAll 43 = .ok (.iload_n 1, 1) := by decide +kernel
theorem dX0_displaceAll_44 : decode cX0_displaceAll 44 = .ok (.if_icmp .ne 13, 3) := by decide +kernel
theorem dX0_displaceAll_47 : decode cX0_displaceAll 47 = .ok (.aload_n 0, 1) := by decide +kernel
theorem dX0_displaceAll_48 : decode cX0_displaceAll 48 = .ok (.iload_n 2, 1) := by decide +kernel
theorem dX0_displaceAll_49 : decode cX0_displaceAll 49 = .ok (.invokevirtual 109, 3) := by decide +kernel
theorem dX0_displaceAll_52 : decode cX0_displaceAll 52 = .ok (.ifCond .ne 5, 3) := by decide +kernel
theorem dX0_displaceAll_55 : decode cX0_displaceAll 55 = .ok (.iconst 0, 1) := by decide +kernel
theorem dX0_displaceAll_56 : decode cX0_displaceAll 56 = .ok (.ireturn, 1) := by decide +kernel
theorem dX0_displaceAll_57 : decode cX0_displaceAll 57 = .ok (.iinc 2 1, 3) := by decide +kernel
theorem dX0_displaceAll_60 : decode cX0_displaceAll 60 = .ok (.goto (-33), 3) := by decide +kernel
theorem dX0_displaceAll_63 : decode cX0_displaceAll 63 = .ok (.iinc 1 (-1), 3) := by decide +kernel
theorem dX0_displaceAll_66 : decode cX0_displaceAll 66 = .ok (.goto (-45), 3) := by decide +kernel
theorem dX0_displaceAll_69 : decode cX0_displaceAll 69 = .ok (.iconst 1, 1) := by decide +kernel
theorem dX0_displaceAll_70 : decode cX0_displaceAll 70 = .ok (.ireturn, 1) := by decide +kernel
set_option maxRecDepth 20000 in
theorem ggX0_largestBucket_X2_sizeOf : GoodIn wsX0_largestBucket wsX2_sizeOf := goodIn_r _ [10, 11, 12, 13, 8, 14, 15, 16, 17, 18, 19, 20, 21, 22, 23, 24, 34, 35, 36, 37, 38, 39] (by decide +kernel) (by decide +kernel)
set_option maxRecDepth 20000 in
theorem gX0_largestBucket_X2_sizeOf_n106 : GoodIn wsX0_largestBucket (wsX2_sizeOf) := ggX0_largestBucket_X2_sizeOf
theorem dX0_largestBucket_0 : decode cX0_largestBucket 0 = .ok (.iconst 0, 1) := by decide +kernel
theorem dX0_largestBucket_1 : decode cX0_largestBucket 1 = .ok (.istore_n 1, 1) := by decide +kernel
theorem dX0_largestBucket_2 : decode cX0_largestBucket 2 = .ok (.iconst 0, 1) := by decide +kernel
theorem dX0_largestBucket_3 : decode cX0_largestBucket 3 = .ok (.istore_n 2, 1) := by decide +kernel
theorem dX0_largestBucket_4 : decode cX0_largestBucket 4 = .ok (.iload_n 2, 1) := by decide +kernel
theorem dX0_largestBucket_5 : decode cX0_largestBucket 5 = .ok (.aload_n 0, 1) := by decide +kernel
theorem dX0_largestBucket_6 : decode cX0_largestBucket 6 = .ok (.getfield 54, 3) := by decide +kernel
theorem dX0_largestBucket_9 : decode cX0_largestBucket 9 = .ok (.if_icmp .ge 22, 3) := by decide +kernel
theorem dX0_largestBucket_12 : decode cX0_largestBucket 12 = .ok (.iload_n 1, 1) := by decide +kernel
theorem dX0_largestBucket_13 : decode cX0_largestBucket 13 = .ok (.aload_n 0, 1) := by decide +kernel
theorem dX0_largestBucket_14 : decode cX0_largestBucket 14 = .ok (.getfield 14, 3) := by decide +kernel
theorem dX0_largestBucket_17 : decode cX0_largestBucket 17 = .ok (.iload_n 2, 1) := by decide +kernel
theorem dX0_largestBucket_18 : decode cX0_largestBucket 18 = .ok (.invokevirtual 106, 3) := by decide +kernel
theorem dX0_largestBucket_21 : decode cX0_largestBucket 21 = .ok (.invokestatic 113, 3) := by decide +kernel
theorem dX0_largestBucket_24 : decode cX0_largestBucket 24 = .ok (.istore_n 1, 1) := by decide +kernel
theorem dX0_largestBucket_25 : decode cX0_largestBucket 25 = .ok (.iinc 2 1, 3) := by decide +kernel
theorem dX0_largestBucket_28 : decode cX0_largestBucket 28 = .ok (.goto (-24), 3) := by decide +kernel
theorem dX0_largestBucket_31 : decode cX0_largestBucket 31 = .ok (.iload_n 1, 1) := by decide +kernel
theorem dX0_largestBucket_32 : decode cX0_largestBucket 32 = .ok (.ireturn, 1) := by decide +kernel
set_option maxRecDepth 20000 in
theorem ggX0_displace_X0_place : GoodIn wsX0_displace wsX0_place := goodIn_r _ [11, 12, 13, 14, 15, 16, 17, 18, 19, 20, 21, 22, 23, 24, 25, 26, 27, 28, 29, 30, 31, 32, 33, 34, 10, 35, 36, 37, 1, 38, 39, 40, 41, 42, 43, 44, 45, 46, 47, 48, 49, 50, 51, 52, 53, 54, 55, 56, 57, 58, 59, 60, 61, 62] (by decide +kernel) (by decide +kernel)
set_option maxRecDepth 20000 in
theorem gX0_displace_X0_place : GoodIn wsX0_displace (wsV RX0 121 RX0 yX0_place wsX0_place) := goodIn_app (goodIn_of _ (by decide +kernel)) ggX0_displace_X0_place
set_option maxRecDepth 20000 in
theorem ggX0_displace_X6_set : GoodIn wsX0_displace wsX6_set := goodIn_r _ [47, 24, 62] (by decide +kernel) (by decide +kernel)
set_option maxRecDepth 20000 in
theorem gX0_displace_X6_set_n90 : GoodIn wsX0_displace (wsX6_set) := ggX0_displace_X6_set
theorem dX0_displace_0 : decode cX0_displace 0 = .ok (.sipush 512, 3) := by decide +kernel
theorem dX0_displace_3 : decode cX0_displace 3 = .ok (.aload_n 0, 1) := by decide +kernel
theorem dX0_displace_4 : decode cX0_displace 4 = .ok (.getfield 47, 3) := by decide +kernel
theorem dX0_displace_7 : decode cX0_displace 7 = .ok (.invokestatic 118, 3) := by decide +kernel
theorem dX0_displace_10 : decode cX0_displace 10 = .ok (.istore_n 2, 1) := by decide +kernel
theorem dX0_displace_11 : decode cX0_displace 11 = .ok (.iconst 0, 1) := by decide +kernel
theorem dX0_displace_12 : decode cX0_displace 12 = .ok (.istore_n 3, 1) := by decide +kernel
theorem dX0_displace_13 : decode cX0_displace 13 = .ok (.iload_n 3, 1) := by decide +kernel
theorem dX0_displace_14 : decode cX0_displace 14 = .ok (.iload_n 2, 1) := by decide +kernel
theorem dX0_displace_15 : decode cX0_displace 15 = .ok (.if_icmp .ge 29, 3) := by decide +kernel
theorem dX0_displace_18 : decode cX0_displace 18 = .ok (.aload_n 0, 1) := by decide +kernel
theorem dX0_displace_19 : decode cX0_displace 19 = .ok (.iload_n 1, 1) := by decide +kernel
theorem dX0_displace_20 : decode cX0_displace 20 = .ok (.iload_n 3, 1) := by decide +kernel
theorem dX0_displace_21 : decode cX0_displace 21 = .ok (.invokevirtual 121, 3) := by decide +kernel
theorem dX0_displace_24 : decode cX0_displace 24 = .ok (.ifCond .eq 14, 3) := by decide +kernel
theorem dX0_displace_27 : decode cX0_displace 27 = .ok (.aload_n 0, 1) := by decide +kernel
theorem dX0_displace_28 : decode cX0_displace 28 = .ok (.getfield 35, 3) := by decide +kernel
theorem dX0_displace_31 : decode cX0_displace 31 = .ok (.iload_n 1, 1) := by decide +kernel
theorem dX0_displace_32 : decode cX0_displace 32 = .ok (.iload_n 3, 1) := by decide +kernel
theorem dX0_displace_33 : decode cX0_displace 33 = .ok (.invokevirtual 90, 3) := by decide +kernel
theorem dX0_displace_36 : decode cX0_displace 36 = .ok (.iconst 1, 1) := by decide +kernel
theorem dX0_displace_37 : decode cX0_displace 37 = .ok (.ireturn, 1) := by decide +kernel
theorem dX0_displace_38 : decode cX0_displace 38 = .ok (.iinc 3 1, 3) := by decide +kernel
theorem dX0_displace_41 : decode cX0_displace 41 = .ok (.goto (-28), 3) := by decide +kernel
theorem dX0_displace_44 : decode cX0_displace 44 = .ok (.iconst 0, 1) := by decide +kernel
theorem dX0_displace_45 : decode cX0_displace 45 = .ok (.ireturn, 1) := by decide +kernel
set_option maxRecDepth 20000 in
theorem ggX0_place_X2_beginOf : GoodIn wsX0_place wsX2_beginOf := goodIn_r _ [7, 8, 9, 10, 11, 12, 13, 48, 49, 50, 51, 52, 53] (by decide +kernel) (by decide +kernel)
set_option maxRecDepth 20000 in
theorem gX0_place_X2_beginOf_n125 : GoodIn wsX0_place (wsX2_beginOf) := ggX0_place_X2_beginOf
set_option maxRecDepth 20000 in
theorem ggX0_place_X2_endOf : GoodIn wsX0_place wsX2_endOf := goodIn_r _ [16, 8, 9, 10, 11, 12, 13, 48, 49, 50, 51, 52, 53] (by decide +kernel) (by decide +kernel)
set_option maxRecDepth 20000 in
theorem gX0_place_X2_endOf_n128 : GoodIn wsX0_place (wsX2_endOf) := ggX0_place_X2_endOf
set_option maxRecDepth 20000 in
theorem ggX0_place_X2_memberAt : GoodIn wsX0_place wsX2_memberAt := goodIn_r _ [19, 20, 9, 10, 11, 12, 13, 48, 49, 50, 51, 52, 53] (by decide +kernel) (by decide +kernel)
set_option maxRecDepth 20000 in
theorem gX0_place_X2_memberAt_n131 : GoodIn wsX0_place (wsX2_memberAt) := ggX0_place_X2_memberAt
set_option maxRecDepth 20000 in
theorem ggX0_place_X0_numberWith : GoodIn wsX0_place wsX0_numberWith := goodIn_r _ [25, 26, 27, 28, 9, 10, 11, 12, 13, 29, 30, 31, 39, 40, 41, 42, 43, 44, 45, 46, 47, 53] (by decide +kernel) (by decide +kernel)
set_option maxRecDepth 20000 in
theorem gX0_place_X0_numberWith : GoodIn wsX0_place (wsV RX0 134 RX0 yX0_numberWith wsX0_numberWith) := goodIn_app (goodIn_of _ (by decide +kernel)) ggX0_place_X0_numberWith
set_option maxRecDepth 20000 in
theorem ggX0_place_X6_get : GoodIn wsX0_place wsX6_get := goodIn_r _ [12, 13, 53] (by decide +kernel) (by decide +kernel)
set_option maxRecDepth 20000 in
theorem gX0_place_X6_get_n137 : GoodIn wsX0_place (wsX6_get) := ggX0_place_X6_get
set_option maxRecDepth 20000 in
theorem ggX0_place_X0_takeBack : GoodIn wsX0_place wsX0_takeBack := goodIn_r _ [35, 1, 2, 3, 17, 5, 18, 19, 20, 9, 10, 11, 12, 13, 36, 37, 38, 39, 40, 41, 42, 43, 44, 45, 46, 47, 48, 49, 50, 51, 52, 53] (by decide +kernel) (by decide +kernel)
set_option maxRecDepth 20000 in
theorem gX0_place_X0_takeBack : GoodIn wsX0_place (wsV RX0 140 RX0 yX0_takeBack wsX0_takeBack) := goodIn_app (goodIn_of _ (by decide +kernel)) ggX0_place_X0_takeBack
set_option maxRecDepth 20000 in
theorem ggX0_place_X6_set : GoodIn wsX0_place wsX6_set := goodIn_r _ [38, 13, 53] (by decide +kernel) (by decide +kernel)
set_option maxRecDepth 20000 in
theorem gX0_place_X6_set_n90 : GoodIn wsX0_place (wsX6_set) := ggX0_place_X6_set
theorem dX0_place_0 : decode cX0_place 0 = .ok (.aload_n 0, 1) := by decide +kernel
theorem dX0_place_1 : decode cX0_place 1 = .ok (.getfield 14, 3) := by decide +kernel
theorem dX0_place_4 : decode cX0_place 4 = .ok (.iload_n 1, 1) := by decide +kernel
theorem dX0_place_5 : decode cX0_place 5 = .ok (.invokevirtual 125, 3) := by decide +kernel
theorem dX0_place_8 : decode cX0_place 8 = .ok (.istore_n 3, 1) := by decide +kernel
theorem dX0_place_9 : decode cX0_place 9 = .ok (.aload_n 0, 1) := by decide +kernel
theorem dX0_place_10 : decode cX0_place 10 = .ok (.getfield 14, 3) := by decide +kernel
theorem dX0_place_13 : decode cX0_place 13 = .ok (.iload_n 1, 1) := by decide +kernel
theorem dX0_place_14 : decode cX0_place 14 = .ok (.invokevirtual 128, 3) := by decide +kernel
theorem dX0_place_17 : decode cX0_place 17 = .ok (.istore 4, 2) := by decide +kernel
theorem dX0_place_19 : decode cX0_place 19 = .ok (.iload_n 3, 1) := by decide +kernel
theorem dX0_place_20 : decode cX0_place 20 = .ok (.istore 5, 2) := by decide +kernel
theorem dX0_place_22 : decode cX0_place 22 = .ok (.iload 5, 2) := by decide +kernel
theorem dX0_place_24 : decode cX0_place 24 = .ok (.iload 4, 2) := by decide +kernel
theorem dX0_place_26 : decode cX0_place 26 = .ok (.if_icmp .ge 73, 3) := by decide +kernel
theorem dX0_place_29 : decode cX0_place 29 = .ok (.aload_n 0, 1) := by decide +kernel
theorem dX0_place_30 : decode cX0_place 30 = .ok (.getfield 14, 3) := by decide +kernel
theorem dX0_place_33 : decode cX0_place 33 = .ok (.iload 5, 2) := by decide +kernel
theorem dX0_place_35 : decode cX0_place 35 = .ok (.invokevirtual 131, 3) := by decide +kernel
theorem dX0_place_38 : decode cX0_place 38 = .ok (.istore 6, 2) := by decide +kernel
theorem dX0_place_40 : decode cX0_place 40 = .ok (.aload_n 0, 1) := by decide +kernel
theorem dX0_place_41 : decode cX0_place 41 = .ok (.iload 6, 2) := by decide +kernel
theorem dX0_place_43 : decode cX0_place 43 = .ok (.iload_n 2, 1) := by decide +kernel
theorem dX0_place_44 : decode cX0_place 44 = .ok (.invokevirtual 134, 3) := by decide +kernel
theorem dX0_place_47 : decode cX0_place 47 = .ok (.istore 7, 2) := by decide +kernel
theorem dX0_place_49 : decode cX0_place 49 = .ok (.aload_n 0, 1) := by decide +kernel
theorem dX0_place_50 : decode cX0_place 50 = .ok (.getfield 38, 3) := by decide +kernel
theorem dX0_place_53 : decode cX0_place 53 = .ok (.iload 7, 2) := by decide +kernel
theorem dX0_place_55 : decode cX0_place 55 = .ok (.invokevirtual 137, 3) := by decide +kernel
theorem dX0_place_58 : decode cX0_place 58 = .ok (.iconst (-1), 1) := by decide +kernel
theorem dX0_place_59 : decode cX0_place 59 = .ok (.if_icmp .eq 12, 3) := by decide +kernel
theorem dX0_place_62 : decode cX0_place 62 = .ok (.aload_n 0, 1) := by decide +kernel
theorem dX0_place_63 : decode cX0_place 63 = .ok (.iload_n 3, 1) := by decide +kernel
theorem dX0_place_64 : decode cX0_place 64 = .ok (.iload 5, 2) := by decide +kernel
theorem dX0_place_66 : decode cX0_place 66 = .ok (.invokevirtual 140, 3) := by decide +kernel
theorem dX0_place_69 : decode cX0_place 69 = .ok (.iconst 0, 1) := by decide +kernel
theorem dX0_place_70 : decode cX0_place 70 = .ok (.ireturn, 1) := by decide +kernel
theorem dX0_place_71 : decode cX0_place 71 = .ok (.aload_n 0, 1) := by decide +kernel
theorem dX0_place_72 : decode cX0_place 72 = .ok (.getfield 38, 3) := by decide +kernel
theorem dX0_place_75 : decode cX0_place 75 = .ok (.iload 7, 2) := by decide +kernel
theorem dX0_place_77 : decode cX0_place 77 = .ok (.iload 6, 2) := by decide +kernel
theorem dX0_place_79 : decode cX0_place 79 = .ok (.invokevirtual 90, 3) := by decide +kernel
theorem dX0_place_82 : decode cX0_place 82 = .ok (.aload_n 0, 1) := by decide +kernel
theorem dX0_place_83 : decode cX0_place 83 = .ok (.getfield 32, 3) := by decide +kernel
theorem dX0_place_86 : decode cX0_place 86 = .ok (.iload 6, 2) := by decide +kernel
theorem dX0_place_88 : decode cX0_place 88 = .ok (.iload 7, 2) := by decide +kernel
theorem dX0_place_90 : decode cX0_place 90 = .ok (.invokevirtual 90, 3) := by decide +kernel
theorem dX0_place_93 : decode cX0_place 93 = .ok (.iinc 5 1, 3) := by decide +kernel
theorem dX0_place_96 : decode cX0_place 96 = .ok (.goto (-74), 3) := by decide +kernel
theorem dX0_place_99 : decode cX0_place 99 = .ok (.iconst 1, 1) := by decide +kernel
theorem dX0_place_100 : decode cX0_place 100 = .ok (.ireturn, 1) := by decide +kernel
set_option maxRecDepth 20000 in
theorem ggX0_takeBack_X2_memberAt : GoodIn wsX0_takeBack wsX2_memberAt := goodIn_r _ [7, 8, 9, 10, 11, 12, 13, 26, 27, 28, 29, 30, 31] (by decide +kernel) (by decide +kernel)
set_option maxRecDepth 20000 in
theorem gX0_takeBack_X2_memberAt_n131 : GoodIn wsX0_takeBack (wsX2_memberAt) := ggX0_takeBack_X2_memberAt
set_option maxRecDepth 20000 in
theorem ggX0_takeBack_X6_get : GoodIn wsX0_takeBack wsX6_get := goodIn_r _ [12, 13, 31] (by decide +kernel) (by decide +kernel)
set_option maxRecDepth 20000 in
theorem gX0_takeBack_X6_get_n137 : GoodIn wsX0_takeBack (wsX6_get) := ggX0_takeBack_X6_get
set_option maxRecDepth 20000 in
theorem ggX0_takeBack_X6_set : GoodIn wsX0_takeBack wsX6_set := goodIn_r _ [16, 13, 31] (by decide +kernel) (by decide +kernel)
set_option maxRecDepth 20000 in
theorem gX0_takeBack_X6_set_n90 : GoodIn wsX0_takeBack (wsX6_set) := ggX0_takeBack_X6_set
theorem dX0_takeBack_0 : decode cX0_takeBack 0 = .ok (.iload_n 1, 1) := by decide +kernel
theorem dX0_takeBack_1 : decode cX0_takeBack 1 = .ok (.istore_n 3, 1) := by decide +kernel
theorem dX0_takeBack_2 : decode cX0_takeBack 2 = .ok (.iload_n 3, 1) := by decide +kernel
theorem dX0_takeBack_3 : decode cX0_takeBack 3 = .ok (.iload_n 2, 1) := by decide +kernel
theorem dX0_takeBack_4 : decode cX0_takeBack 4 = .ok (.if_icmp .ge 36, 3) := by decide +kernel
theorem dX0_takeBack_7 : decode cX0_takeBack 7 = .ok (.aload_n 0, 1) := by decide +kernel
theorem dX0_takeBack_8 : decode cX0_takeBack 8 = .ok (.getfield 14, 3) := by decide +kernel
theorem dX0_takeBack_11 : decode cX0_takeBack 11 = .ok (.iload_n 3, 1) := by decide +kernel
theorem dX0_takeBack_12 : decode cX0_takeBack 12 = .ok (.invokevirtual 131, 3) := by decide +kernel
theorem dX0_takeBack_15 : decode cX0_takeBack 15 = .ok (.istore 4, 2) := by decide +kernel
theorem dX0_takeBack_17 : decode cX0_takeBack 17 = .ok (.aload_n 0, 1) := by decide +kernel
theorem dX0_takeBack_18 : decode cX0_takeBack 18 = .ok (.getfield 38, 3) := by decide +kernel
theorem dX0_takeBack_21 : decode cX0_takeBack 21 = .ok (.aload_n 0, 1) := by decide +kernel
theorem dX0_takeBack_22 : decode cX0_takeBack 22 = .ok (.getfield 32, 3) := by decide +kernel
theorem dX0_takeBack_25 : decode cX0_takeBack 25 = .ok (.iload 4, 2) := by decide +kernel
theorem dX0_takeBack_27 : decode cX0_takeBack 27 = .ok (.invokevirtual 137, 3) := by decide +kernel
theorem dX0_takeBack_30 : decode cX0_takeBack 30 = .ok (.iconst (-1), 1) := by decide +kernel
theorem dX0_takeBack_31 : decode cX0_takeBack 31 = .ok (.invokevirtual 90, 3) := by decide +kernel
theorem dX0_takeBack_34 : decode cX0_takeBack 34 = .ok (.iinc 3 1, 3) := by decide +kernel
theorem dX0_takeBack_37 : decode cX0_takeBack 37 = .ok (.goto (-35), 3) := by decide +kernel
theorem dX0_takeBack_40 : decode cX0_takeBack 40 = .ok (.return_, 1) := by decide +kernel
set_option maxRecDepth 20000 in
theorem ggX0_numberWith_X6_get : GoodIn wsX0_numberWith wsX6_get := goodIn_r _ [7, 8, 21] (by decide +kernel) (by decide +kernel)
set_option maxRecDepth 20000 in
theorem gX0_numberWith_X6_get_n137 : GoodIn wsX0_numberWith (wsX6_get) := ggX0_numberWith_X6_get
set_option maxRecDepth 20000 in
theorem ggX0_numberWith_X7_remainder : GoodIn wsX0_numberWith wsX7_remainder := goodIn_r _ [11] (by decide +kernel) (by decide +kernel)
set_option maxRecDepth 20000 in
theorem gX0_numberWith_X7_remainder_n143 : GoodIn wsX0_numberWith (wsX7_remainder) := ggX0_numberWith_X7_remainder
theorem dX0_numberWith_0 : decode cX0_numberWith 0 = .ok (.aload_n 0, 1) := by decide +kernel
theorem dX0_numberWith_1 : decode cX0_numberWith 1 = .ok (.getfield 25, 3) := by decide +kernel
theorem dX0_numberWith_4 : decode cX0_numberWith 4 = .ok (.iload_n 1, 1) := by decide +kernel
theorem dX0_numberWith_5 : decode cX0_numberWith 5 = .ok (.invokevirtual 137, 3) := by decide +kernel
theorem dX0_numberWith_8 : decode cX0_numberWith 8 = .ok (.iload_n 2, 1) := by decide +kernel
theorem dX0_numberWith_9 : decode cX0_numberWith 9 = .ok (.aload_n 0, 1) := by decide +kernel
theorem dX0_numberWith_10 : decode cX0_numberWith 10 = .ok (.getfield 29, 3) := by decide +kernel
theorem dX0_numberWith_13 : decode cX0_numberWith 13 = .ok (.iload_n 1, 1) := by decide +kernel
theorem dX0_numberWith_14 : decode cX0_numberWith 14 = .ok (.invokevirtual 137, 3) := by decide +kernel
theorem dX0_numberWith_17 : decode cX0_numberWith 17 = .ok (.imul, 1) := by decide +kernel
theorem dX0_numberWith_18 : decode cX0_numberWith 18 = .ok (.iadd, 1) := by decide +kernel
theorem dX0_numberWith_19 : decode cX0_numberWith 19 = .ok (.aload_n 0, 1) := by decide +kernel
theorem dX0_numberWith_20 : decode cX0_numberWith 20 = .ok (.getfield 47, 3) := by decide +kernel
theorem dX0_numberWith_23 : decode cX0_numberWith 23 = .ok (.invokestatic 143, 3) := by decide +kernel
theorem dX0_numberWith_26 : decode cX0_numberWith 26 = .ok (.ireturn, 1) := by decide +kernel
set_option maxRecDepth 20000 in
theorem ggX0_numberOf_X0_bucketOf : GoodIn wsX0_numberOf wsX0_bucketOf := goodIn_r _ [9, 10, 3, 11, 12, 13, 14, 15, 16, 17, 18, 19, 20, 21, 22, 33, 34, 35, 36, 37, 38, 39, 40, 41] (by decide +kernel) (by decide +kernel)
set_option maxRecDepth 20000 in
theorem gX0_numberOf_X0_bucketOf : GoodIn wsX0_numberOf (wsV RX0 75 RX0 yX0_bucketOf wsX0_bucketOf) := goodIn_app (goodIn_of _ (by decide +kernel)) ggX0_numberOf_X0_bucketOf
set_option maxRecDepth 20000 in
theorem ggX0_numberOf_X6_get : GoodIn wsX0_numberOf wsX6_get := goodIn_r _ [26, 27, 42] (by decide +kernel) (by decide +kernel)
set_option maxRecDepth 20000 in
theorem gX0_numberOf_X6_get_n137 : GoodIn wsX0_numberOf (wsX6_get) := ggX0_numberOf_X6_get
set_option maxRecDepth 20000 in
theorem ggX0_numberOf_X0_stepOf : GoodIn wsX0_numberOf wsX0_stepOf := goodIn_r _ [31, 4, 32, 3, 12, 13, 14, 15, 16, 17, 18, 19, 20, 21, 22, 33, 34, 35, 36, 37, 38, 39, 40, 41] (by decide +kernel) (by decide +kernel)
set_option maxRecDepth 20000 in
theorem gX0_numberOf_X0_stepOf : GoodIn wsX0_numberOf (wsV RX0 93 RX0 yX0_stepOf wsX0_stepOf) := goodIn_app (goodIn_of _ (by decide +kernel)) ggX0_numberOf_X0_stepOf
set_option maxRecDepth 20000 in
theorem ggX0_numberOf_X3_of : GoodIn wsX0_numberOf wsX3_of := goodIn_r _ [15, 16, 17, 18, 19] (by decide +kernel) (by decide +kernel)
set_option maxRecDepth 20000 in
theorem gX0_numberOf_X3_of_n87 : GoodIn wsX0_numberOf (wsX3_of) := ggX0_numberOf_X3_of
set_option maxRecDepth 20000 in
theorem ggX0_numberOf_X7_remainder : GoodIn wsX0_numberOf wsX7_remainder := goodIn_r _ [22] (by decide +kernel) (by decide +kernel)
set_option maxRecDepth 20000 in
theorem gX0_numberOf_X7_remainder_n143 : GoodIn wsX0_numberOf (wsX7_remainder) := ggX0_numberOf_X7_remainder
theorem dX0_numberOf_0 : decode cX0_numberOf 0 = .ok (.aload_n 0, 1) := by decide +kernel
theorem dX0_numberOf_1 : decode cX0_numberOf 1 = .ok (.getfield 35, 3) := by decide +kernel
theorem dX0_numberOf_4 : decode cX0_numberOf 4 = .ok (.aload_n 0, 1) := by decide +kernel
theorem dX0_numberOf_5 : decode cX0_numberOf 5 = .ok (.iload_n 1, 1) := by decide +kernel
theorem dX0_numberOf_6 : decode cX0_numberOf 6 = .ok (.invokevirtual 75, 3) := by decide +kernel
theorem dX0_numberOf_9 : decode cX0_numberOf 9 = .ok (.invokevirtual 137, 3) := by decide +kernel
theorem dX0_numberOf_12 : decode cX0_numberOf 12 = .ok (.aload_n 0, 1) := by decide +kernel
theorem dX0_numberOf_13 : decode cX0_numberOf 13 = .ok (.iload_n 1, 1) := by decide +kernel
theorem dX0_numberOf_14 : decode cX0_numberOf 14 = .ok (.invokevirtual 93, 3) := by decide +kernel
theorem dX0_numberOf_17 : decode cX0_numberOf 17 = .ok (.imul, 1) := by decide +kernel
theorem dX0_numberOf_18 : decode cX0_numberOf 18 = .ok (.istore_n 2, 1) := by decide +kernel
theorem dX0_numberOf_19 : decode cX0_numberOf 19 = .ok (.getstatic 81, 3) := by decide +kernel
theorem dX0_numberOf_22 : decode cX0_numberOf 22 = .ok (.iload_n 1, 1) := by decide +kernel
theorem dX0_numberOf_23 : decode cX0_numberOf 23 = .ok (.aload_n 0, 1) := by decide +kernel
theorem dX0_numberOf_24 : decode cX0_numberOf 24 = .ok (.getfield 57, 3) := by decide +kernel
theorem dX0_numberOf_27 : decode cX0_numberOf 27 = .ok (.invokevirtual 87, 3) := by decide +kernel
theorem dX0_numberOf_30 : decode cX0_numberOf 30 = .ok (.iload_n 2, 1) := by decide +kernel
theorem dX0_numberOf_31 : decode cX0_numberOf 31 = .ok (.iadd, 1) := by decide +kernel
theorem dX0_numberOf_32 : decode cX0_numberOf 32 = .ok (.aload_n 0, 1) := by decide +kernel
theorem dX0_numberOf_33 : decode cX0_numberOf 33 = .ok (.getfield 47, 3) := by decide +kernel
theorem dX0_numberOf_36 : decode cX0_numberOf 36 = .ok (.invokestatic 143, 3) := by decide +kernel
theorem dX0_numberOf_39 : decode cX0_numberOf 39 = .ok (.ireturn, 1) := by decide +kernel
set_option maxRecDepth 20000 in
theorem ggX0_bucketOf_X3_of : GoodIn wsX0_bucketOf wsX3_of := goodIn_r _ [7, 8, 9, 10, 11] (by decide +kernel) (by decide +kernel)
set_option maxRecDepth 20000 in
theorem gX0_bucketOf_X3_of_n87 : GoodIn wsX0_bucketOf (wsX3_of) := ggX0_bucketOf_X3_of
set_option maxRecDepth 20000 in
theorem ggX0_bucketOf_X7_remainder : GoodIn wsX0_bucketOf wsX7_remainder := goodIn_r _ [14] (by decide +kernel) (by decide +kernel)
set_option maxRecDepth 20000 in
theorem gX0_bucketOf_X7_remainder_n143 : GoodIn wsX0_bucketOf (wsX7_remainder) := ggX0_bucketOf_X7_remainder
theorem dX0_bucketOf_0 : decode cX0_bucketOf 0 = .ok (.getstatic 146, 3) := by decide +kernel
theorem dX0_bucketOf_3 : decode cX0_bucketOf 3 = .ok (.iload_n 1, 1) := by decide +kernel
theorem dX0_bucketOf_4 : decode cX0_bucketOf 4 = .ok (.aload_n 0, 1) := by decide +kernel
theorem dX0_bucketOf_5 : decode cX0_bucketOf 5 = .ok (.getfield 57, 3) := by decide +kernel
theorem dX0_bucketOf_8 : decode cX0_bucketOf 8 = .ok (.invokevirtual 87, 3) := by decide +kernel
theorem dX0_bucketOf_11 : decode cX0_bucketOf 11 = .ok (.aload_n 0, 1) := by decide +kernel
theorem dX0_bucketOf_12 : decode cX0_bucketOf 12 = .ok (.getfield 54, 3) := by decide +kernel
theorem dX0_bucketOf_15 : decode cX0_bucketOf 15 = .ok (.invokestatic 143, 3) := by decide +kernel
theorem dX0_bucketOf_18 : decode cX0_bucketOf 18 = .ok (.ireturn, 1) := by decide +kernel
set_option maxRecDepth 20000 in
theorem ggX0_stepOf_X3_of : GoodIn wsX0_stepOf wsX3_of := goodIn_r _ [7, 8, 9, 10, 11] (by decide +kernel) (by decide +kernel)
set_option maxRecDepth 20000 in
theorem gX0_stepOf_X3_of_n87 : GoodIn wsX0_stepOf (wsX3_of) := ggX0_stepOf_X3_of
set_option maxRecDepth 20000 in
theorem ggX0_stepOf_X7_remainder : GoodIn wsX0_stepOf wsX7_remainder := goodIn_r _ [14] (by decide +kernel) (by decide +kernel)
set_option maxRecDepth 20000 in
theorem gX0_stepOf_X7_remainder_n143 : GoodIn wsX0_stepOf (wsX7_remainder) := ggX0_stepOf_X7_remainder
theorem dX0_stepOf_0 : decode cX0_stepOf 0 = .ok (.aload_n 0, 1) := by decide +kernel
theorem dX0_stepOf_1 : decode cX0_stepOf 1 = .ok (.getfield 47, 3) := by decide +kernel
theorem dX0_stepOf_4 : decode cX0_stepOf 4 = .ok (.iconst 1, 1) := by decide +kernel
theorem dX0_stepOf_5 : decode cX0_stepOf 5 = .ok (.if_icmp .le 28, 3) := by decide +kernel
theorem dX0_stepOf_8 : decode cX0_stepOf 8 = .ok (.iconst 1, 1) := by decide +kernel
theorem dX0_stepOf_9 : decode cX0_stepOf 9 = .ok (.getstatic 149, 3) := by decide +kernel
theorem dX0_stepOf_12 : decode cX0_stepOf 12 = .ok (.iload_n 1, 1) := by decide +kernel
theorem dX0_stepOf_13 : decode cX0_stepOf 13 = .ok (.aload_n 0, 1) := by decide +kernel
theorem dX0_stepOf_14 : decode cX0_stepOf 14 = .ok (.getfield 57, 3) := by decide +kernel
theorem dX0_stepOf_17 : decode cX0_stepOf 17 = .ok (.invokevirtual 87, 3) := by decide +kernel
theorem dX0_stepOf_20 : decode cX0_stepOf 20 = .ok (.aload_n 0, 1) := by decide +kernel
theorem dX0_stepOf_21 : decode cX0_stepOf 21 = .ok (.getfield 47, 3) := by decide +kernel
theorem dX0_stepOf_24 : decode cX0_stepOf 24 = .ok (.iconst 1, 1) := by decide +kernel
theorem dX0_stepOf_25 : decode cX0_stepOf 25 = .ok (.isub, 1) := by decide +kernel
theorem dX0_stepOf_26 : decode cX0_stepOf 26 = .ok (.invokestatic 143, 3) := by decide +kernel
theorem dX0_stepOf_29 : decode cX0_stepOf 29 = .ok (.iadd, 1) := by decide +kernel
theorem dX0_stepOf_30 : decode cX0_stepOf 30 = .ok (.goto 4, 3) := by decide +kernel
theorem dX0_stepOf_33 : decode cX0_stepOf 33 = .ok (.iconst 1, 1) := by decide +kernel
theorem dX0_stepOf_34 : decode cX0_stepOf 34 = .ok (.ireturn, 1) := by decide +kernel
set_option maxRecDepth 20000 in
theorem ggX1_init_X2_init : GoodIn wsX1_init wsX2_init := goodIn_r _ [15, 16, 2, 3, 17, 9, 10, 18, 19, 20, 21, 22, 23, 24, 25, 26, 27, 28, 29, 43, 30, 31, 32, 33, 34] (by decide +kernel) (by decide +kernel)
set_option maxRecDepth 20000 in
theorem gX1_init_X2_init_n11 : GoodIn wsX1_init (wsX2_init) := ggX1_init_X2_init
set_option maxRecDepth 20000 in
theorem ggX1_init_X6_init : GoodIn wsX1_init wsX6_init := goodIn_r _ [22, 23, 2, 3, 24, 25, 26, 27, 28, 29, 43] (by decide +kernel) (by decide +kernel)
set_option maxRecDepth 20000 in
theorem gX1_init_X6_init_n22 : GoodIn wsX1_init (wsX6_init) := ggX1_init_X6_init
theorem dX1_init_0 : decode cX1_init 0 = .ok (.aload_n 0, 1) := by decide +kernel
theorem dX1_init_1 : decode cX1_init 1 = .ok (.invokespecial 3, 3) := by decide +kernel
theorem dX1_init_4 : decode cX1_init 4 = .ok (.aload_n 0, 1) := by decide +kernel
