theorem dX1_init_5 : decode cX1_init 5 = .ok (.new 9, 3) := by decide +kernel
theorem dX1_init_8 : decode cX1_init 8 = .ok (.dup, 1) := by decide +kernel
theorem dX1_init_9 : decode cX1_init 9 = .ok (.sipush 240, 3) := by decide +kernel
theorem dX1_init_12 : decode cX1_init 12 = .ok (.sipush 360, 3) := by decide +kernel
theorem dX1_init_15 : decode cX1_init 15 = .ok (.invokespecial 11, 3) := by decide +kernel
theorem dX1_init_18 : decode cX1_init 18 = .ok (.putfield 14, 3) := by decide +kernel
theorem dX1_init_21 : decode cX1_init 21 = .ok (.aload_n 0, 1) := by decide +kernel
theorem dX1_init_22 : decode cX1_init 22 = .ok (.new 20, 3) := by decide +kernel
theorem dX1_init_25 : decode cX1_init 25 = .ok (.dup, 1) := by decide +kernel
theorem dX1_init_26 : decode cX1_init 26 = .ok (.bipush 120, 2) := by decide +kernel
theorem dX1_init_28 : decode cX1_init 28 = .ok (.invokespecial 22, 3) := by decide +kernel
theorem dX1_init_31 : decode cX1_init 31 = .ok (.putfield 25, 3) := by decide +kernel
theorem dX1_init_34 : decode cX1_init 34 = .ok (.aload_n 0, 1) := by decide +kernel
theorem dX1_init_35 : decode cX1_init 35 = .ok (.new 20, 3) := by decide +kernel
theorem dX1_init_38 : decode cX1_init 38 = .ok (.dup, 1) := by decide +kernel
theorem dX1_init_39 : decode cX1_init 39 = .ok (.sipush 360, 3) := by decide +kernel
theorem dX1_init_42 : decode cX1_init 42 = .ok (.invokespecial 22, 3) := by decide +kernel
theorem dX1_init_45 : decode cX1_init 45 = .ok (.putfield 29, 3) := by decide +kernel
theorem dX1_init_48 : decode cX1_init 48 = .ok (.aload_n 0, 1) := by decide +kernel
theorem dX1_init_49 : decode cX1_init 49 = .ok (.new 20, 3) := by decide +kernel
theorem dX1_init_52 : decode cX1_init 52 = .ok (.dup, 1) := by decide +kernel
theorem dX1_init_53 : decode cX1_init 53 = .ok (.sipush 360, 3) := by decide +kernel
theorem dX1_init_56 : decode cX1_init 56 = .ok (.invokespecial 22, 3) := by decide +kernel
theorem dX1_init_59 : decode cX1_init 59 = .ok (.putfield 32, 3) := by decide +kernel
theorem dX1_init_62 : decode cX1_init 62 = .ok (.return_, 1) := by decide +kernel
set_option maxRecDepth 20000 in
theorem ggX1_settle_X1_layEdges : GoodIn wsX1_settle wsX1_layEdges := goodIn_r _ [8, 9, 1, 2, 10, 11, 12, 13, 14, 15, 16, 17, 18, 19, 20, 21, 22, 23, 24, 25, 26, 27, 28, 29, 30, 31, 32, 33, 34, 35, 36, 37, 38, 7, 39, 3, 40, 41, 42, 43, 44, 45, 46, 47, 48, 49, 50, 51, 52, 53, 54, 55, 56, 57, 58, 59, 60, 61, 96, 97, 98, 99, 100, 101, 102, 103, 104, 105, 106, 107, 108, 109, 94, 95] (by decide +kernel) (by decide +kernel)
set_option maxRecDepth 20000 in
theorem gX1_settle_X1_layEdges : GoodIn wsX1_settle (wsV RX1 50 RX1 yX1_layEdges wsX1_layEdges) := goodIn_app (goodIn_of _ (by decide +kernel)) ggX1_settle_X1_layEdges
set_option maxRecDepth 20000 in
theorem ggX1_settle_X1_giveValues : GoodIn wsX1_settle wsX1_giveValues := goodIn_r _ [65, 66, 67, 2, 19, 20, 21, 22, 23, 24, 25, 26, 27, 33, 34, 35, 68, 69, 70, 7, 71, 72, 73, 74, 75, 76, 77, 55, 56, 57, 78, 79, 80, 81, 9, 1, 82, 13, 83, 84, 18, 85, 86, 87, 88, 89, 90, 61, 91, 92, 93, 54, 48, 49, 50, 96, 97, 98, 99, 100, 101, 102, 103, 109, 104, 105, 106, 107, 108] (by decide +kernel) (by decide +kernel)
set_option maxRecDepth 20000 in
theorem gX1_settle_X1_giveValues : GoodIn wsX1_settle (wsV RX1 54 RX1 yX1_giveValues wsX1_giveValues) := goodIn_app (goodIn_of _ (by decide +kernel)) ggX1_settle_X1_giveValues
theorem dX1_settle_0 : decode cX1_settle 0 = .ok (.aload_n 0, 1) := by decide +kernel
theorem dX1_settle_1 : decode cX1_settle 1 = .ok (.aload_n 1, 1) := by decide +kernel
theorem dX1_settle_2 : decode cX1_settle 2 = .ok (.getfield 35, 3) := by decide +kernel
theorem dX1_settle_5 : decode cX1_settle 5 = .ok (.putfield 41, 3) := by decide +kernel
theorem dX1_settle_8 : decode cX1_settle 8 = .ok (.aload_n 0, 1) := by decide +kernel
theorem dX1_settle_9 : decode cX1_settle 9 = .ok (.iconst 3, 1) := by decide +kernel
theorem dX1_settle_10 : decode cX1_settle 10 = .ok (.aload_n 0, 1) := by decide +kernel
theorem dX1_settle_11 : decode cX1_settle 11 = .ok (.getfield 41, 3) := by decide +kernel
theorem dX1_settle_14 : decode cX1_settle 14 = .ok (.imul, 1) := by decide +kernel
theorem dX1_settle_15 : decode cX1_settle 15 = .ok (.putfield 44, 3) := by decide +kernel
theorem dX1_settle_18 : decode cX1_settle 18 = .ok (.iconst 0, 1) := by decide +kernel
theorem dX1_settle_19 : decode cX1_settle 19 = .ok (.istore_n 2, 1) := by decide +kernel
theorem dX1_settle_20 : decode cX1_settle 20 = .ok (.iload_n 2, 1) := by decide +kernel
theorem dX1_settle_21 : decode cX1_settle 21 = .ok (.sipush 200, 3) := by decide +kernel
theorem dX1_settle_24 : decode cX1_settle 24 = .ok (.if_icmp .ge 28, 3) := by decide +kernel
theorem dX1_settle_27 : decode cX1_settle 27 = .ok (.aload_n 0, 1) := by decide +kernel
theorem dX1_settle_28 : decode cX1_settle 28 = .ok (.iload_n 2, 1) := by decide +kernel
theorem dX1_settle_29 : decode cX1_settle 29 = .ok (.putfield 47, 3) := by decide +kernel
theorem dX1_settle_32 : decode cX1_settle 32 = .ok (.aload_n 0, 1) := by decide +kernel
theorem dX1_settle_33 : decode cX1_settle 33 = .ok (.aload_n 1, 1) := by decide +kernel
theorem dX1_settle_34 : decode cX1_settle 34 = .ok (.invokevirtual 50, 3) := by decide +kernel
theorem dX1_settle_37 : decode cX1_settle 37 = .ok (.aload_n 0, 1) := by decide +kernel
theorem dX1_settle_38 : decode cX1_settle 38 = .ok (.invokevirtual 54, 3) := by decide +kernel
theorem dX1_settle_41 : decode cX1_settle 41 = .ok (.ifCond .eq 5, 3) := by decide +kernel
theorem dX1_settle_44 : decode cX1_settle 44 = .ok (.iconst 1, 1) := by decide +kernel
theorem dX1_settle_45 : decode cX1_settle 45 = .ok (.ireturn, 1) := by decide +kernel
theorem dX1_settle_46 : decode cX1_settle 46 = .ok (.iinc 2 1, 3) := by decide +kernel
theorem dX1_settle_49 : decode cX1_settle 49 = .ok (.goto (-29), 3) := by decide +kernel
theorem dX1_settle_52 : decode cX1_settle 52 = .ok (.iconst 0, 1) := by decide +kernel
theorem dX1_settle_53 : decode cX1_settle 53 = .ok (.ireturn, 1) := by decide +kernel
set_option maxRecDepth 20000 in
theorem ggX1_layEdges_X2_restart : GoodIn wsX1_layEdges wsX2_restart := goodIn_r _ [9, 10, 11, 12, 13, 14, 15, 16, 17, 18, 19, 20, 21, 66, 67, 68, 69, 70, 71] (by decide +kernel) (by decide +kernel)
set_option maxRecDepth 20000 in
theorem gX1_layEdges_X2_restart_n58 : GoodIn wsX1_layEdges (wsX2_restart) := ggX1_layEdges_X2_restart
set_option maxRecDepth 20000 in
theorem ggX1_layEdges_X4_at : GoodIn wsX1_layEdges wsX4_at := goodIn_r _ [25, 26, 27, 14, 28, 29, 17, 72, 73, 71] (by decide +kernel) (by decide +kernel)
set_option maxRecDepth 20000 in
theorem gX1_layEdges_X4_at_n61 : GoodIn wsX1_layEdges (wsX4_at) := ggX1_layEdges_X4_at
set_option maxRecDepth 20000 in
theorem ggX1_layEdges_X1_vertexOf : GoodIn wsX1_layEdges wsX1_vertexOf := goodIn_r _ [34, 35, 3, 36, 37, 38, 39, 40, 41, 42, 43, 44, 45, 46, 58, 59, 60, 61, 62, 63, 64, 65] (by decide +kernel) (by decide +kernel)
set_option maxRecDepth 20000 in
theorem gX1_layEdges_X1_vertexOf : GoodIn wsX1_layEdges (wsV RX1 71 RX1 yX1_vertexOf wsX1_vertexOf) := goodIn_app (goodIn_of _ (by decide +kernel)) ggX1_layEdges_X1_vertexOf
set_option maxRecDepth 20000 in
theorem ggX1_layEdges_X2_assign : GoodIn wsX1_layEdges wsX2_assign := goodIn_r _ [49, 50, 12, 51, 14, 52, 53, 17, 27, 28, 29, 66, 67, 68, 69, 70, 71] (by decide +kernel) (by decide +kernel)
set_option maxRecDepth 20000 in
theorem gX1_layEdges_X2_assign_n75 : GoodIn wsX1_layEdges (wsX2_assign) := ggX1_layEdges_X2_assign
set_option maxRecDepth 20000 in
theorem ggX1_layEdges_X2_arrange : GoodIn wsX1_layEdges wsX2_arrange := goodIn_r _ [56, 11, 12, 10, 50, 57, 27, 14, 28, 29, 17, 51, 52, 53, 66, 67, 68, 69, 70, 71] (by decide +kernel) (by decide +kernel)
set_option maxRecDepth 20000 in
theorem gX1_layEdges_X2_arrange_n81 : GoodIn wsX1_layEdges (wsX2_arrange) := ggX1_layEdges_X2_arrange
theorem dX1_layEdges_0 : decode cX1_layEdges 0 = .ok (.aload_n 0, 1) := by decide +kernel
theorem dX1_layEdges_1 : decode cX1_layEdges 1 = .ok (.getfield 14, 3) := by decide +kernel
theorem dX1_layEdges_4 : decode cX1_layEdges 4 = .ok (.iconst 2, 1) := by decide +kernel
theorem dX1_layEdges_5 : decode cX1_layEdges 5 = .ok (.aload_n 0, 1) := by decide +kernel
theorem dX1_layEdges_6 : decode cX1_layEdges 6 = .ok (.getfield 41, 3) := by decide +kernel
theorem dX1_layEdges_9 : decode cX1_layEdges 9 = .ok (.imul, 1) := by decide +kernel
theorem dX1_layEdges_10 : decode cX1_layEdges 10 = .ok (.aload_n 0, 1) := by decide +kernel
theorem dX1_layEdges_11 : decode cX1_layEdges 11 = .ok (.getfield 44, 3) := by decide +kernel
theorem dX1_layEdges_14 : decode cX1_layEdges 14 = .ok (.invokevirtual 58, 3) := by decide +kernel
theorem dX1_layEdges_17 : decode cX1_layEdges 17 = .ok (.iconst 0, 1) := by decide +kernel
theorem dX1_layEdges_18 : decode cX1_layEdges 18 = .ok (.istore_n 2, 1) := by decide +kernel
theorem dX1_layEdges_19 : decode cX1_layEdges 19 = .ok (.iload_n 2, 1) := by decide +kernel
theorem dX1_layEdges_20 : decode cX1_layEdges 20 = .ok (.aload_n 0, 1) := by decide +kernel
theorem dX1_layEdges_21 : decode cX1_layEdges 21 = .ok (.getfield 41, 3) := by decide +kernel
theorem dX1_layEdges_24 : decode cX1_layEdges 24 = .ok (.if_icmp .ge 53, 3) := by decide +kernel
theorem dX1_layEdges_27 : decode cX1_layEdges 27 = .ok (.aload_n 1, 1) := by decide +kernel
theorem dX1_layEdges_28 : decode cX1_layEdges 28 = .ok (.iload_n 2, 1) := by decide +kernel
theorem dX1_layEdges_29 : decode cX1_layEdges 29 = .ok (.invokevirtual 61, 3) := by decide +kernel
theorem dX1_layEdges_32 : decode cX1_layEdges 32 = .ok (.istore_n 3, 1) := by decide +kernel
theorem dX1_layEdges_33 : decode cX1_layEdges 33 = .ok (.aload_n 0, 1) := by decide +kernel
theorem dX1_layEdges_34 : decode cX1_layEdges 34 = .ok (.getfield 14, 3) := by decide +kernel
theorem dX1_layEdges_37 : decode cX1_layEdges 37 = .ok (.iconst 2, 1) := by decide +kernel
theorem dX1_layEdges_38 : decode cX1_layEdges 38 = .ok (.iload_n 2, 1) := by decide +kernel
theorem dX1_layEdges_39 : decode cX1_layEdges 39 = .ok (.imul, 1) := by decide +kernel
theorem dX1_layEdges_40 : decode cX1_layEdges 40 = .ok (.aload_n 0, 1) := by decide +kernel
theorem dX1_layEdges_41 : decode cX1_layEdges 41 = .ok (.getstatic 65, 3) := by decide +kernel
theorem dX1_layEdges_44 : decode cX1_layEdges 44 = .ok (.iload_n 3, 1) := by decide +kernel
theorem dX1_layEdges_45 : decode cX1_layEdges 45 = .ok (.invokevirtual 71, 3) := by decide +kernel
theorem dX1_layEdges_48 : decode cX1_layEdges 48 = .ok (.invokevirtual 75, 3) := by decide +kernel
theorem dX1_layEdges_51 : decode cX1_layEdges 51 = .ok (.aload_n 0, 1) := by decide +kernel
theorem dX1_layEdges_52 : decode cX1_layEdges 52 = .ok (.getfield 14, 3) := by decide +kernel
theorem dX1_layEdges_55 : decode cX1_layEdges 55 = .ok (.iconst 2, 1) := by decide +kernel
theorem dX1_layEdges_56 : decode cX1_layEdges 56 = .ok (.iload_n 2, 1) := by decide +kernel
theorem dX1_layEdges_57 : decode cX1_layEdges 57 = .ok (.imul, 1) := by decide +kernel
theorem dX1_layEdges_58 : decode cX1_layEdges 58 = .ok (.iconst 1, 1) := by decide +kernel
theorem dX1_layEdges_59 : decode cX1_layEdges 59 = .ok (.iadd, 1) := by decide +kernel
theorem dX1_layEdges_60 : decode cX1_layEdges 60 = .ok (.aload_n 0, 1) := by decide +kernel
theorem dX1_layEdges_61 : decode cX1_layEdges 61 = .ok (.getstatic 78, 3) := by decide +kernel
theorem dX1_layEdges_64 : decode cX1_layEdges 64 = .ok (.iload_n 3, 1) := by decide +kernel
theorem dX1_layEdges_65 : decode cX1_layEdges 65 = .ok (.invokevirtual 71, 3) := by decide +kernel
theorem dX1_layEdges_68 : decode cX1_layEdges 68 = .ok (.invokevirtual 75, 3) := by decide +kernel
theorem dX1_layEdges_71 : decode cX1_layEdges 71 = .ok (.iinc 2 1, 3) := by decide +kernel
theorem dX1_layEdges_74 : decode cX1_layEdges 74 = .ok (.goto (-55), 3) := by decide +kernel
theorem dX1_layEdges_77 : decode cX1_layEdges 77 = .ok (.aload_n 0, 1) := by decide +kernel
theorem dX1_layEdges_78 : decode cX1_layEdges 78 = .ok (.getfield 14, 3) := by decide +kernel
theorem dX1_layEdges_81 : decode cX1_layEdges 81 = .ok (.invokevirtual 81, 3) := by decide +kernel
theorem dX1_layEdges_84 : decode cX1_layEdges 84 = .ok (.return_, 1) := by decide +kernel
set_option maxRecDepth 20000 in
theorem ggX1_giveValues_X6_fill : GoodIn wsX1_giveValues wsX6_fill := goodIn_r _ [7, 8, 9, 10, 11, 12, 63] (by decide +kernel) (by decide +kernel)
set_option maxRecDepth 20000 in
theorem gX1_giveValues_X6_fill_n84 : GoodIn wsX1_giveValues (wsX6_fill) := ggX1_giveValues_X6_fill
set_option maxRecDepth 20000 in
theorem ggX1_giveValues_X6_get : GoodIn wsX1_giveValues wsX6_get := goodIn_r _ [15, 8, 63] (by decide +kernel) (by decide +kernel)
set_option maxRecDepth 20000 in
theorem gX1_giveValues_X6_get_n87 : GoodIn wsX1_giveValues (wsX6_get) := ggX1_giveValues_X6_get
set_option maxRecDepth 20000 in
theorem ggX1_giveValues_X1_walkFrom : GoodIn wsX1_giveValues wsX1_walkFrom := goodIn_r _ [20, 21, 3, 22, 23, 24, 25, 19, 26, 1, 27, 5, 28, 29, 8, 13, 14, 15, 30, 31, 32, 33, 34, 2, 35, 36, 37, 38, 39, 40, 41, 42, 43, 44, 45, 46, 47, 48, 49, 50, 51, 52, 53, 54, 55, 56, 57, 58, 59, 60, 61, 62, 63, 64, 65, 66, 67, 68] (by decide +kernel) (by decide +kernel)
set_option maxRecDepth 20000 in
theorem gX1_giveValues_X1_walkFrom : GoodIn wsX1_giveValues (wsV RX1 90 RX1 yX1_walkFrom wsX1_walkFrom) := goodIn_app (goodIn_of _ (by decide +kernel)) ggX1_giveValues_X1_walkFrom
theorem dX1_giveValues_0 : decode cX1_giveValues 0 = .ok (.aload_n 0, 1) := by decide +kernel
theorem dX1_giveValues_1 : decode cX1_giveValues 1 = .ok (.getfield 29, 3) := by decide +kernel
theorem dX1_giveValues_4 : decode cX1_giveValues 4 = .ok (.iconst (-1), 1) := by decide +kernel
theorem dX1_giveValues_5 : decode cX1_giveValues 5 = .ok (.invokevirtual 84, 3) := by decide +kernel
theorem dX1_giveValues_8 : decode cX1_giveValues 8 = .ok (.aload_n 0, 1) := by decide +kernel
theorem dX1_giveValues_9 : decode cX1_giveValues 9 = .ok (.getfield 25, 3) := by decide +kernel
theorem dX1_giveValues_12 : decode cX1_giveValues 12 = .ok (.iconst 0, 1) := by decide +kernel
theorem dX1_giveValues_13 : decode cX1_giveValues 13 = .ok (.invokevirtual 84, 3) := by decide +kernel
theorem dX1_giveValues_16 : decode cX1_giveValues 16 = .ok (.iconst 0, 1) := by decide +kernel
theorem dX1_giveValues_17 : decode cX1_giveValues 17 = .ok (.istore_n 1, 1) := by decide +kernel
theorem dX1_giveValues_18 : decode cX1_giveValues 18 = .ok (.iload_n 1, 1) := by decide +kernel
theorem dX1_giveValues_19 : decode cX1_giveValues 19 = .ok (.aload_n 0, 1) := by decide +kernel
theorem dX1_giveValues_20 : decode cX1_giveValues 20 = .ok (.getfield 44, 3) := by decide +kernel
theorem dX1_giveValues_23 : decode cX1_giveValues 23 = .ok (.if_icmp .ge 31, 3) := by decide +kernel
theorem dX1_giveValues_26 : decode cX1_giveValues 26 = .ok (.aload_n 0, 1) := by decide +kernel
theorem dX1_giveValues_27 : decode cX1_giveValues 27 = .ok (.getfield 29, 3) := by decide +kernel
theorem dX1_giveValues_30 : decode cX1_giveValues 30 = .ok (.iload_n 1, 1) := by decide +kernel
theorem dX1_giveValues_31 : decode cX1_giveValues 31 = .ok (.invokevirtual 87, 3) := by decide +kernel
theorem dX1_giveValues_34 : decode cX1_giveValues 34 = .ok (.iconst (-1), 1) := by decide +kernel
theorem dX1_giveValues_35 : decode cX1_giveValues 35 = .ok (.if_icmp .ne 13, 3) := by decide +kernel
theorem dX1_giveValues_38 : decode cX1_giveValues 38 = .ok (.aload_n 0, 1) := by decide +kernel
theorem dX1_giveValues_39 : decode cX1_giveValues 39 = .ok (.iload_n 1, 1) := by decide +kernel
theorem dX1_giveValues_40 : decode cX1_giveValues 40 = .ok (.invokevirtual 90, 3) := by decide +kernel
theorem dX1_giveValues_43 : decode cX1_giveValues 43 = .ok (.ifCond .ne 5, 3) := by decide +kernel
theorem dX1_giveValues_46 : decode cX1_giveValues 46 = .ok (.iconst 0, 1) := by decide +kernel
theorem dX1_giveValues_47 : decode cX1_giveValues 47 = .ok (.ireturn, 1) := by decide +kernel
theorem dX1_giveValues_48 : decode cX1_giveValues 48 = .ok (.iinc 1 1, 3) := by decide +kernel
theorem dX1_giveValues_51 : decode cX1_giveValues 51 = .ok (.goto (-33), 3) := by decide +kernel
theorem dX1_giveValues_54 : decode cX1_giveValues 54 = .ok (.iconst 1, 1) := by decide +kernel
theorem dX1_giveValues_55 : decode cX1_giveValues 55 = .ok (.ireturn, 1) := by decide +kernel
set_option maxRecDepth 20000 in
theorem ggX1_walkFrom_X1_reach : GoodIn wsX1_walkFrom wsX1_reach := goodIn_r _ [8, 9, 3, 1, 10, 11, 12, 13, 14, 44, 45, 46, 47, 48, 49, 50, 51, 52] (by decide +kernel) (by decide +kernel)
set_option maxRecDepth 20000 in
theorem gX1_walkFrom_X1_reach : GoodIn wsX1_walkFrom (wsV RX1 97 RX1 yX1_reach wsX1_reach) := goodIn_app (goodIn_of _ (by decide +kernel)) ggX1_walkFrom_X1_reach
set_option maxRecDepth 20000 in
theorem ggX1_walkFrom_X6_get : GoodIn wsX1_walkFrom wsX6_get := goodIn_r _ [17, 14, 52] (by decide +kernel) (by decide +kernel)
set_option maxRecDepth 20000 in
theorem gX1_walkFrom_X6_get_n87 : GoodIn wsX1_walkFrom (wsX6_get) := ggX1_walkFrom_X6_get
set_option maxRecDepth 20000 in
theorem ggX1_walkFrom_X1_walkOn : GoodIn wsX1_walkFrom wsX1_walkOn := goodIn_r _ [21, 22, 23, 9, 24, 25, 26, 27, 28, 29, 15, 11, 16, 17, 14, 30, 31, 32, 33, 34, 35, 36, 10, 12, 13, 37, 38, 39, 40, 41, 42, 43, 4, 5, 6, 7, 8, 3, 1, 44, 45, 46, 47, 48, 49, 50, 51, 53, 54, 55, 56, 57, 52] (by decide +kernel) (by decide +kernel)
set_option maxRecDepth 20000 in
theorem gX1_walkFrom_X1_walkOn : GoodIn wsX1_walkFrom (wsV RX1 100 RX1 yX1_walkOn wsX1_walkOn) := goodIn_app (goodIn_of _ (by decide +kernel)) ggX1_walkFrom_X1_walkOn
theorem dX1_walkFrom_0 : decode cX1_walkFrom 0 = .ok (.aload_n 0, 1) := by decide +kernel
theorem dX1_walkFrom_1 : decode cX1_walkFrom 1 = .ok (.iconst 0, 1) := by decide +kernel
theorem dX1_walkFrom_2 : decode cX1_walkFrom 2 = .ok (.putfield 94, 3) := by decide +kernel
theorem dX1_walkFrom_5 : decode cX1_walkFrom 5 = .ok (.aload_n 0, 1) := by decide +kernel
theorem dX1_walkFrom_6 : decode cX1_walkFrom 6 = .ok (.iload_n 1, 1) := by decide +kernel
theorem dX1_walkFrom_7 : decode cX1_walkFrom 7 = .ok (.iconst 0, 1) := by decide +kernel
theorem dX1_walkFrom_8 : decode cX1_walkFrom 8 = .ok (.invokevirtual 97, 3) := by decide +kernel
theorem dX1_walkFrom_11 : decode cX1_walkFrom 11 = .ok (.iconst 0, 1) := by decide +kernel
theorem dX1_walkFrom_12 : decode cX1_walkFrom 12 = .ok (.istore_n 2, 1) := by decide +kernel
theorem dX1_walkFrom_13 : decode cX1_walkFrom 13 = .ok (.iload_n 2, 1) := by decide +kernel
theorem dX1_walkFrom_14 : decode cX1_walkFrom 14 = .ok (.aload_n 0, 1) := by decide +kernel
theorem dX1_walkFrom_15 : decode cX1_walkFrom 15 = .ok (.getfield 94, 3) := by decide +kernel
theorem dX1_walkFrom_18 : decode cX1_walkFrom 18 = .ok (.if_icmp .ge 34, 3) := by decide +kernel
theorem dX1_walkFrom_21 : decode cX1_walkFrom 21 = .ok (.iload_n 2, 1) := by decide +kernel
theorem dX1_walkFrom_22 : decode cX1_walkFrom 22 = .ok (.aload_n 0, 1) := by decide +kernel
theorem dX1_walkFrom_23 : decode cX1_walkFrom 23 = .ok (.getfield 44, 3) := by decide +kernel
theorem dX1_walkFrom_26 : decode cX1_walkFrom 26 = .ok (.if_icmp .ge 26, 3) := by decide +kernel
theorem dX1_walkFrom_29 : decode cX1_walkFrom 29 = .ok (.aload_n 0, 1) := by decide +kernel
theorem dX1_walkFrom_30 : decode cX1_walkFrom 30 = .ok (.aload_n 0, 1) := by decide +kernel
theorem dX1_walkFrom_31 : decode cX1_walkFrom 31 = .ok (.getfield 32, 3) := by decide +kernel
theorem dX1_walkFrom_34 : decode cX1_walkFrom 34 = .ok (.iload_n 2, 1) := by decide +kernel
theorem dX1_walkFrom_35 : decode cX1_walkFrom 35 = .ok (.invokevirtual 87, 3) := by decide +kernel
theorem dX1_walkFrom_38 : decode cX1_walkFrom 38 = .ok (.invokevirtual 100, 3) := by decide +kernel
theorem dX1_walkFrom_41 : decode cX1_walkFrom 41 = .ok (.ifCond .ne 5, 3) := by decide +kernel
theorem dX1_walkFrom_44 : decode cX1_walkFrom 44 = .ok (.iconst 0, 1) := by decide +kernel
theorem dX1_walkFrom_45 : decode cX1_walkFrom 45 = .ok (.ireturn, 1) := by decide +kernel
theorem dX1_walkFrom_46 : decode cX1_walkFrom 46 = .ok (.iinc 2 1, 3) := by decide +kernel
theorem dX1_walkFrom_49 : decode cX1_walkFrom 49 = .ok (.goto (-36), 3) := by decide +kernel
theorem dX1_walkFrom_52 : decode cX1_walkFrom 52 = .ok (.iconst 1, 1) := by decide +kernel
theorem dX1_walkFrom_53 : decode cX1_walkFrom 53 = .ok (.ireturn, 1) := by decide +kernel
set_option maxRecDepth 20000 in
theorem ggX1_walkOn_X2_beginOf : GoodIn wsX1_walkOn wsX2_beginOf := goodIn_r _ [8, 9, 10, 11, 12, 13, 14, 47, 48, 49, 50, 51, 52] (by decide +kernel) (by decide +kernel)
set_option maxRecDepth 20000 in
theorem gX1_walkOn_X2_beginOf_n103 : GoodIn wsX1_walkOn (wsX2_beginOf) := ggX1_walkOn_X2_beginOf
set_option maxRecDepth 20000 in
theorem ggX1_walkOn_X2_endOf : GoodIn wsX1_walkOn wsX2_endOf := goodIn_r _ [17, 9, 10, 11, 12, 13, 14, 47, 48, 49, 50, 51, 52] (by decide +kernel) (by decide +kernel)
set_option maxRecDepth 20000 in
theorem gX1_walkOn_X2_endOf_n106 : GoodIn wsX1_walkOn (wsX2_endOf) := ggX1_walkOn_X2_endOf
set_option maxRecDepth 20000 in
theorem ggX1_walkOn_X2_memberAt : GoodIn wsX1_walkOn wsX2_memberAt := goodIn_r _ [20, 21, 10, 11, 12, 13, 14, 47, 48, 49, 50, 51, 52] (by decide +kernel) (by decide +kernel)
set_option maxRecDepth 20000 in
theorem gX1_walkOn_X2_memberAt_n109 : GoodIn wsX1_walkOn (wsX2_memberAt) := ggX1_walkOn_X2_memberAt
set_option maxRecDepth 20000 in
theorem ggX1_walkOn_X6_get : GoodIn wsX1_walkOn wsX6_get := goodIn_r _ [13, 14, 52] (by decide +kernel) (by decide +kernel)
set_option maxRecDepth 20000 in
theorem gX1_walkOn_X6_get_n87 : GoodIn wsX1_walkOn (wsX6_get) := ggX1_walkOn_X6_get
set_option maxRecDepth 20000 in
theorem ggX1_walkOn_X6_set : GoodIn wsX1_walkOn wsX6_set := goodIn_r _ [24, 14, 52] (by decide +kernel) (by decide +kernel)
set_option maxRecDepth 20000 in
theorem gX1_walkOn_X6_set_n112 : GoodIn wsX1_walkOn (wsX6_set) := ggX1_walkOn_X6_set
set_option maxRecDepth 20000 in
theorem ggX1_walkOn_X2_groupOf : GoodIn wsX1_walkOn wsX2_groupOf := goodIn_r _ [27, 28, 10, 11, 12, 13, 14, 47, 48, 49, 50, 51, 52] (by decide +kernel) (by decide +kernel)
set_option maxRecDepth 20000 in
theorem gX1_walkOn_X2_groupOf_n115 : GoodIn wsX1_walkOn (wsX2_groupOf) := ggX1_walkOn_X2_groupOf
set_option maxRecDepth 20000 in
theorem ggX1_walkOn_X7_remainder : GoodIn wsX1_walkOn wsX7_remainder := goodIn_r _ [31] (by decide +kernel) (by decide +kernel)
set_option maxRecDepth 20000 in
theorem gX1_walkOn_X7_remainder_n118 : GoodIn wsX1_walkOn (wsX7_remainder) := ggX1_walkOn_X7_remainder
set_option maxRecDepth 20000 in
theorem ggX1_walkOn_X1_reach : GoodIn wsX1_walkOn wsX1_reach := goodIn_r _ [36, 3, 37, 38, 22, 11, 23, 24, 14, 39, 40, 41, 42, 43, 44, 45, 46, 52] (by decide +kernel) (by decide +kernel)
set_option maxRecDepth 20000 in
theorem gX1_walkOn_X1_reach : GoodIn wsX1_walkOn (wsV RX1 97 RX1 yX1_reach wsX1_reach) := goodIn_app (goodIn_of _ (by decide +kernel)) ggX1_walkOn_X1_reach
theorem dX1_walkOn_0 : decode cX1_walkOn 0 = .ok (.aload_n 0, 1) := by decide +kernel
theorem dX1_walkOn_1 : decode cX1_walkOn 1 = .ok (.getfield 14, 3) := by decide +kernel
theorem dX1_walkOn_4 : decode cX1_walkOn 4 = .ok (.iload_n 1, 1) := by decide +kernel
theorem dX1_walkOn_5 : decode cX1_walkOn 5 = .ok (.invokevirtual 103, 3) := by decide +kernel
theorem dX1_walkOn_8 : decode cX1_walkOn 8 = .ok (.istore_n 2, 1) := by decide +kernel
theorem dX1_walkOn_9 : decode cX1_walkOn 9 = .ok (.iload_n 2, 1) := by decide +kernel
theorem dX1_walkOn_10 : decode cX1_walkOn 10 = .ok (.aload_n 0, 1) := by decide +kernel
theorem dX1_walkOn_11 : decode cX1_walkOn 11 = .ok (.getfield 14, 3) := by decide +kernel
theorem dX1_walkOn_14 : decode cX1_walkOn 14 = .ok (.iload_n 1, 1) := by decide +kernel
theorem dX1_walkOn_15 : decode cX1_walkOn 15 = .ok (.invokevirtual 106, 3) := by decide +kernel
theorem dX1_walkOn_18 : decode cX1_walkOn 18 = .ok (.if_icmp .ge 101, 3) := by decide +kernel
theorem dX1_walkOn_21 : decode cX1_walkOn 21 = .ok (.aload_n 0, 1) := by decide +kernel
theorem dX1_walkOn_22 : decode cX1_walkOn 22 = .ok (.getfield 14, 3) := by decide +kernel
theorem dX1_walkOn_25 : decode cX1_walkOn 25 = .ok (.iload_n 2, 1) := by decide +kernel
theorem dX1_walkOn_26 : decode cX1_walkOn 26 = .ok (.invokevirtual 109, 3) := by decide +kernel
theorem dX1_walkOn_29 : decode cX1_walkOn 29 = .ok (.istore_n 3, 1) := by decide +kernel
theorem dX1_walkOn_30 : decode cX1_walkOn 30 = .ok (.iload_n 3, 1) := by decide +kernel
theorem dX1_walkOn_31 : decode cX1_walkOn 31 = .ok (.iconst 1, 1) := by decide +kernel
theorem dX1_walkOn_32 : decode cX1_walkOn 32 = .ok (.ishr, 1) := by decide +kernel
theorem dX1_walkOn_33 : decode cX1_walkOn 33 = .ok (.istore 4, 2) := by decide +kernel
theorem dX1_walkOn_35 : decode cX1_walkOn 35 = .ok (.aload_n 0, 1) := by decide +kernel
theorem dX1_walkOn_36 : decode cX1_walkOn 36 = .ok (.getfield 25, 3) := by decide +kernel
theorem dX1_walkOn_39 : decode cX1_walkOn 39 = .ok (.iload 4, 2) := by decide +kernel
theorem dX1_walkOn_41 : decode cX1_walkOn 41 = .ok (.invokevirtual 87, 3) := by decide +kernel
theorem dX1_walkOn_44 : decode cX1_walkOn 44 = .ok (.ifCond .ne 69, 3) := by decide +kernel
theorem dX1_walkOn_47 : decode cX1_walkOn 47 = .ok (.aload_n 0, 1) := by decide +kernel
theorem dX1_walkOn_48 : decode cX1_walkOn 48 = .ok (.getfield 25, 3) := by decide +kernel
theorem dX1_walkOn_51 : decode cX1_walkOn 51 = .ok (.iload 4, 2) := by decide +kernel
theorem dX1_walkOn_53 : decode cX1_walkOn 53 = .ok (.iconst 1, 1) := by decide +kernel
theorem dX1_walkOn_54 : decode cX1_walkOn 54 = .ok (.invokevirtual 112, 3) := by decide +kernel
theorem dX1_walkOn_57 : decode cX1_walkOn 57 = .ok (.aload_n 0, 1) := by decide +kernel
theorem dX1_walkOn_58 : decode cX1_walkOn 58 = .ok (.getfield 14, 3) := by decide +kernel
theorem dX1_walkOn_61 : decode cX1_walkOn 61 = .ok (.iload_n 3, 1) := by decide +kernel
theorem dX1_walkOn_62 : decode cX1_walkOn 62 = .ok (.iconst 1, 1) := by decide +kernel
theorem dX1_walkOn_63 : decode cX1_walkOn 63 = .ok (.ixor, 1) := by decide +kernel
theorem dX1_walkOn_64 : decode cX1_walkOn 64 = .ok (.invokevirtual 115, 3) := by decide +kernel
theorem dX1_walkOn_67 : decode cX1_walkOn 67 = .ok (.istore 5, 2) := by decide +kernel
theorem dX1_walkOn_69 : decode cX1_walkOn 69 = .ok (.aload_n 0, 1) := by decide +kernel
theorem dX1_walkOn_70 : decode cX1_walkOn 70 = .ok (.getfield 29, 3) := by decide +kernel
theorem dX1_walkOn_73 : decode cX1_walkOn 73 = .ok (.iload 5, 2) := by decide +kernel
theorem dX1_walkOn_75 : decode cX1_walkOn 75 = .ok (.invokevirtual 87, 3) := by decide +kernel
theorem dX1_walkOn_78 : decode cX1_walkOn 78 = .ok (.iconst (-1), 1) := by decide +kernel
theorem dX1_walkOn_79 : decode cX1_walkOn 79 = .ok (.if_icmp .eq 5, 3) := by decide +kernel
theorem dX1_walkOn_82 : decode cX1_walkOn 82 = .ok (.iconst 0, 1) := by decide +kernel
theorem dX1_walkOn_83 : decode cX1_walkOn 83 = .ok (.ireturn, 1) := by decide +kernel
theorem dX1_walkOn_84 : decode cX1_walkOn 84 = .ok (.aload_n 0, 1) := by decide +kernel
theorem dX1_walkOn_85 : decode cX1_walkOn 85 = .ok (.iload 5, 2) := by decide +kernel
theorem dX1_walkOn_87 : decode cX1_walkOn 87 = .ok (.iload 4, 2) := by decide +kernel
theorem dX1_walkOn_89 : decode cX1_walkOn 89 = .ok (.aload_n 0, 1) := by decide +kernel
theorem dX1_walkOn_90 : decode cX1_walkOn 90 = .ok (.getfield 29, 3) := by decide +kernel
theorem dX1_walkOn_93 : decode cX1_walkOn 93 = .ok (.iload_n 1, 1) := by decide +kernel
theorem dX1_walkOn_94 : decode cX1_walkOn 94 = .ok (.invokevirtual 87, 3) := by decide +kernel
theorem dX1_walkOn_97 : decode cX1_walkOn 97 = .ok (.isub, 1) := by decide +kernel
theorem dX1_walkOn_98 : decode cX1_walkOn 98 = .ok (.aload_n 0, 1) := by decide +kernel
theorem dX1_walkOn_99 : decode cX1_walkOn 99 = .ok (.getfield 41, 3) := by decide +kernel
theorem dX1_walkOn_102 : decode cX1_walkOn 102 = .ok (.iadd, 1) := by decide +kernel
theorem dX1_walkOn_103 : decode cX1_walkOn 103 = .ok (.aload_n 0, 1) := by decide +kernel
theorem dX1_walkOn_104 : decode cX1_walkOn 104 = .ok (.getfield 41, 3) := by decide +kernel
theorem dX1_walkOn_107 : decode cX1_walkOn 107 = .ok (.invokestatic 118, 3) := by decide +kernel
theorem dX1_walkOn_110 : decode cX1_walkOn 110 = .ok (.invokevirtual 97, 3) := by decide +kernel
theorem dX1_walkOn_113 : decode cX1_walkOn 113 = .ok (.iinc 2 1, 3) := by decide +kernel
theorem dX1_walkOn_116 : decode cX1_walkOn 116 = .ok (.goto (-107), 3) := by decide +kernel
theorem dX1_walkOn_119 : decode cX1_walkOn 119 = .ok (.iconst 1, 1) := by decide +kernel
theorem dX1_walkOn_120 : decode cX1_walkOn 120 = .ok (.ireturn, 1) := by decide +kernel
set_option maxRecDepth 20000 in
theorem ggX1_reach_X6_set : GoodIn wsX1_reach wsX6_set := goodIn_r _ [7, 8, 17] (by decide +kernel) (by decide +kernel)
set_option maxRecDepth 20000 in
theorem gX1_reach_X6_set_n112 : GoodIn wsX1_reach (wsX6_set) := ggX1_reach_X6_set
theorem dX1_reach_0 : decode cX1_reach 0 = .ok (.aload_n 0, 1) := by decide +kernel
theorem dX1_reach_1 : decode cX1_reach 1 = .ok (.getfield 29, 3) := by decide +kernel
theorem dX1_reach_4 : decode cX1_reach 4 = .ok (.iload_n 1, 1) := by decide +kernel
theorem dX1_reach_5 : decode cX1_reach 5 = .ok (.iload_n 2, 1) := by decide +kernel
theorem dX1_reach_6 : decode cX1_reach 6 = .ok (.invokevirtual 112, 3) := by decide +kernel
theorem dX1_reach_9 : decode cX1_reach 9 = .ok (.aload_n 0, 1) := by decide +kernel
theorem dX1_reach_10 : decode cX1_reach 10 = .ok (.getfield 32, 3) := by decide +kernel
theorem dX1_reach_13 : decode cX1_reach 13 = .ok (.aload_n 0, 1) := by decide +kernel
theorem dX1_reach_14 : decode cX1_reach 14 = .ok (.getfield 94, 3) := by decide +kernel
theorem dX1_reach_17 : decode cX1_reach 17 = .ok (.iload_n 1, 1) := by decide +kernel
theorem dX1_reach_18 : decode cX1_reach 18 = .ok (.invokevirtual 112, 3) := by decide +kernel
theorem dX1_reach_21 : decode cX1_reach 21 = .ok (.aload_n 0, 1) := by decide +kernel
theorem dX1_reach_22 : decode cX1_reach 22 = .ok (.dup, 1) := by decide +kernel
theorem dX1_reach_23 : decode cX1_reach 23 = .ok (.getfield 94, 3) := by decide +kernel
theorem dX1_reach_26 : decode cX1_reach 26 = .ok (.iconst 1, 1) := by decide +kernel
theorem dX1_reach_27 : decode cX1_reach 27 = .ok (.iadd, 1) := by decide +kernel
theorem dX1_reach_28 : decode cX1_reach 28 = .ok (.putfield 94, 3) := by decide +kernel
theorem dX1_reach_31 : decode cX1_reach 31 = .ok (.return_, 1) := by decide +kernel
set_option maxRecDepth 20000 in
theorem ggX1_vertexOf_X3_of : GoodIn wsX1_vertexOf wsX3_of := goodIn_r _ [6, 7, 8, 9, 10] (by decide +kernel) (by decide +kernel)
set_option maxRecDepth 20000 in
theorem gX1_vertexOf_X3_of_n122 : GoodIn wsX1_vertexOf (wsX3_of) := ggX1_vertexOf_X3_of
set_option maxRecDepth 20000 in
theorem ggX1_vertexOf_X7_remainder : GoodIn wsX1_vertexOf wsX7_remainder := goodIn_r _ [13] (by decide +kernel) (by decide +kernel)
set_option maxRecDepth 20000 in
theorem gX1_vertexOf_X7_remainder_n118 : GoodIn wsX1_vertexOf (wsX7_remainder) := ggX1_vertexOf_X7_remainder
theorem dX1_vertexOf_0 : decode cX1_vertexOf 0 = .ok (.aload_n 1, 1) := by decide +kernel
theorem dX1_vertexOf_1 : decode cX1_vertexOf 1 = .ok (.iload_n 2, 1) := by decide +kernel
theorem dX1_vertexOf_2 : decode cX1_vertexOf 2 = .ok (.aload_n 0, 1) := by decide +kernel
theorem dX1_vertexOf_3 : decode cX1_vertexOf 3 = .ok (.getfield 47, 3) := by decide +kernel
theorem dX1_vertexOf_6 : decode cX1_vertexOf 6 = .ok (.invokevirtual 122, 3) := by decide +kernel
theorem dX1_vertexOf_9 : decode cX1_vertexOf 9 = .ok (.aload_n 0, 1) := by decide +kernel
theorem dX1_vertexOf_10 : decode cX1_vertexOf 10 = .ok (.getfield 44, 3) := by decide +kernel
theorem dX1_vertexOf_13 : decode cX1_vertexOf 13 = .ok (.invokestatic 118, 3) := by decide +kernel
theorem dX1_vertexOf_16 : decode cX1_vertexOf 16 = .ok (.ireturn, 1) := by decide +kernel
set_option maxRecDepth 20000 in
theorem ggX1_sumFor_X1_vertexOf : GoodIn wsX1_sumFor wsX1_vertexOf := goodIn_r _ [9, 10, 11, 12, 13, 14, 15, 16, 17, 18, 19, 20, 21, 22, 28, 29, 30, 31, 32, 33, 34, 35] (by decide +kernel) (by decide +kernel)
set_option maxRecDepth 20000 in
theorem gX1_sumFor_X1_vertexOf : GoodIn wsX1_sumFor (wsV RX1 71 RX1 yX1_vertexOf wsX1_vertexOf) := goodIn_app (goodIn_of _ (by decide +kernel)) ggX1_sumFor_X1_vertexOf
set_option maxRecDepth 20000 in
theorem ggX1_sumFor_X6_get : GoodIn wsX1_sumFor wsX6_get := goodIn_r _ [26, 27, 36] (by decide +kernel) (by decide +kernel)
set_option maxRecDepth 20000 in
theorem gX1_sumFor_X6_get_n87 : GoodIn wsX1_sumFor (wsX6_get) := ggX1_sumFor_X6_get
set_option maxRecDepth 20000 in
theorem ggX1_sumFor_X7_remainder : GoodIn wsX1_sumFor wsX7_remainder := goodIn_r _ [22] (by decide +kernel) (by decide +kernel)
set_option maxRecDepth 20000 in
theorem gX1_sumFor_X7_remainder_n118 : GoodIn wsX1_sumFor (wsX7_remainder) := ggX1_sumFor_X7_remainder
theorem dX1_sumFor_0 : decode cX1_sumFor 0 = .ok (.aload_n 0, 1) := by decide +kernel
theorem dX1_sumFor_1 : decode cX1_sumFor 1 = .ok (.getfield 29, 3) := by decide +kernel
theorem dX1_sumFor_4 : decode cX1_sumFor 4 = .ok (.aload_n 0, 1) := by decide +kernel
theorem dX1_sumFor_5 : decode cX1_sumFor 5 = .ok (.getstatic 65, 3) := by decide +kernel
theorem dX1_sumFor_8 : decode cX1_sumFor 8 = .ok (.iload_n 1, 1) := by decide +kernel
theorem dX1_sumFor_9 : decode cX1_sumFor 9 = .ok (.invokevirtual 71, 3) := by decide +kernel
theorem dX1_sumFor_12 : decode cX1_sumFor 12 = .ok (.invokevirtual 87, 3) := by decide +kernel
theorem dX1_sumFor_15 : decode cX1_sumFor 15 = .ok (.istore_n 2, 1) := by decide +kernel
theorem dX1_sumFor_16 : decode cX1_sumFor 16 = .ok (.aload_n 0, 1) := by decide +kernel
theorem dX1_sumFor_17 : decode cX1_sumFor 17 = .ok (.getfield 29, 3) := by decide +kernel
theorem dX1_sumFor_20 : decode cX1_sumFor 20 = .ok (.aload_n 0, 1) := by decide +kernel
theorem dX1_sumFor_21 : decode cX1_sumFor 21 = .ok (.getstatic 78, 3) := by decide +kernel
theorem dX1_sumFor_24 : decode cX1_sumFor 24 = .ok (.iload_n 1, 1) := by decide +kernel
theorem dX1_sumFor_25 : decode cX1_sumFor 25 = .ok (.invokevirtual 71, 3) := by decide +kernel
theorem dX1_sumFor_28 : decode cX1_sumFor 28 = .ok (.invokevirtual 87, 3) := by decide +kernel
theorem dX1_sumFor_31 : decode cX1_sumFor 31 = .ok (.istore_n 3, 1) := by decide +kernel
theorem dX1_sumFor_32 : decode cX1_sumFor 32 = .ok (.iload_n 2, 1) := by decide +kernel
theorem dX1_sumFor_33 : decode cX1_sumFor 33 = .ok (.iload_n 3, 1) := by decide +kernel
theorem dX1_sumFor_34 : decode cX1_sumFor 34 = .ok (.iadd, 1) := by decide +kernel
theorem dX1_sumFor_35 : decode cX1_sumFor 35 = .ok (.aload_n 0, 1) := by decide +kernel
theorem dX1_sumFor_36 : decode cX1_sumFor 36 = .ok (.getfield 41, 3) := by decide +kernel
theorem dX1_sumFor_39 : decode cX1_sumFor 39 = .ok (.invokestatic 118, 3) := by decide +kernel
theorem dX1_sumFor_42 : decode cX1_sumFor 42 = .ok (.ireturn, 1) := by decide +kernel
set_option maxRecDepth 20000 in
theorem ggX2_init_X6_init : GoodIn wsX2_init wsX6_init := goodIn_r _ [11, 12, 2, 3, 13, 14, 15, 16, 17, 18, 19] (by decide +kernel) (by decide +kernel)
set_option maxRecDepth 20000 in
theorem gX2_init_X6_init_n9 : GoodIn wsX2_init (wsX6_init) := ggX2_init_X6_init
theorem dX2_init_0 : decode cX2_init 0 = .ok (.aload_n 0, 1) := by decide +kernel
theorem dX2_init_1 : decode cX2_init 1 = .ok (.invokespecial 1, 3) := by decide +kernel
theorem dX2_init_4 : decode cX2_init 4 = .ok (.aload_n 0, 1) := by decide +kernel
theorem dX2_init_5 : decode cX2_init 5 = .ok (.new 7, 3) := by decide +kernel
theorem dX2_init_8 : decode cX2_init 8 = .ok (.dup, 1) := by decide +kernel
theorem dX2_init_9 : decode cX2_init 9 = .ok (.iload_n 1, 1) := by decide +kernel
theorem dX2_init_10 : decode cX2_init 10 = .ok (.invokespecial 9, 3) := by decide +kernel
theorem dX2_init_13 : decode cX2_init 13 = .ok (.putfield 12, 3) := by decide +kernel
theorem dX2_init_16 : decode cX2_init 16 = .ok (.aload_n 0, 1) := by decide +kernel
theorem dX2_init_17 : decode cX2_init 17 = .ok (.new 7, 3) := by decide +kernel
theorem dX2_init_20 : decode cX2_init 20 = .ok (.dup, 1) := by decide +kernel
theorem dX2_init_21 : decode cX2_init 21 = .ok (.iload_n 2, 1) := by decide +kernel
theorem dX2_init_22 : decode cX2_init 22 = .ok (.iconst 1, 1) := by decide +kernel
theorem dX2_init_23 : decode cX2_init 23 = .ok (.iadd, 1) := by decide +kernel
theorem dX2_init_24 : decode cX2_init 24 = .ok (.invokespecial 9, 3) := by decide +kernel
theorem dX2_init_27 : decode cX2_init 27 = .ok (.putfield 18, 3) := by decide +kernel
theorem dX2_init_30 : decode cX2_init 30 = .ok (.aload_n 0, 1) := by decide +kernel
theorem dX2_init_31 : decode cX2_init 31 = .ok (.new 7, 3) := by decide +kernel
theorem dX2_init_34 : decode cX2_init 34 = .ok (.dup, 1) := by decide +kernel
theorem dX2_init_35 : decode cX2_init 35 = .ok (.iload_n 1, 1) := by decide +kernel
theorem dX2_init_36 : decode cX2_init 36 = .ok (.invokespecial 9, 3) := by decide +kernel
theorem dX2_init_39 : decode cX2_init 39 = .ok (.putfield 21, 3) := by decide +kernel
theorem dX2_init_42 : decode cX2_init 42 = .ok (.return_, 1) := by decide +kernel
set_option maxRecDepth 20000 in
theorem ggX2_restart_X6_fill : GoodIn wsX2_restart wsX6_fill := goodIn_r _ [7, 8, 9, 10, 11, 12, 18] (by decide +kernel) (by decide +kernel)
set_option maxRecDepth 20000 in
theorem gX2_restart_X6_fill_n31 : GoodIn wsX2_restart (wsX6_fill) := ggX2_restart_X6_fill
theorem dX2_restart_0 : decode cX2_restart 0 = .ok (.aload_n 0, 1) := by decide +kernel
theorem dX2_restart_1 : decode cX2_restart 1 = .ok (.iload_n 1, 1) := by decide +kernel
theorem dX2_restart_2 : decode cX2_restart 2 = .ok (.putfield 24, 3) := by decide +kernel
theorem dX2_restart_5 : decode cX2_restart 5 = .ok (.aload_n 0, 1) := by decide +kernel
theorem dX2_restart_6 : decode cX2_restart 6 = .ok (.iload_n 2, 1) := by decide +kernel
theorem dX2_restart_7 : decode cX2_restart 7 = .ok (.putfield 28, 3) := by decide +kernel
theorem dX2_restart_10 : decode cX2_restart 10 = .ok (.aload_n 0, 1) := by decide +kernel
theorem dX2_restart_11 : decode cX2_restart 11 = .ok (.getfield 18, 3) := by decide +kernel
theorem dX2_restart_14 : decode cX2_restart 14 = .ok (.iconst 0, 1) := by decide +kernel
theorem dX2_restart_15 : decode cX2_restart 15 = .ok (.invokevirtual 31, 3) := by decide +kernel
theorem dX2_restart_18 : decode cX2_restart 18 = .ok (.return_, 1) := by decide +kernel
set_option maxRecDepth 20000 in
theorem ggX2_assign_X6_set : GoodIn wsX2_assign wsX6_set := goodIn_r _ [6, 7, 16] (by decide +kernel) (by decide +kernel)
set_option maxRecDepth 20000 in
theorem gX2_assign_X6_set_n34 : GoodIn wsX2_assign (wsX6_set) := ggX2_assign_X6_set
set_option maxRecDepth 20000 in
theorem ggX2_assign_X6_get : GoodIn wsX2_assign wsX6_get := goodIn_r _ [10, 7, 16] (by decide +kernel) (by decide +kernel)
set_option maxRecDepth 20000 in
theorem gX2_assign_X6_get_n38 : GoodIn wsX2_assign (wsX6_get) := ggX2_assign_X6_get
theorem dX2_assign_0 : decode cX2_assign 0 = .ok (.aload_n 0, 1) := by decide +kernel
theorem dX2_assign_1 : decode cX2_assign 1 = .ok (.getfield 12, 3) := by decide +kernel
theorem dX2_assign_4 : decode cX2_assign 4 = .ok (.iload_n 1, 1) := by decide +kernel
theorem dX2_assign_5 : decode cX2_assign 5 = .ok (.iload_n 2, 1) := by decide +kernel
theorem dX2_assign_6 : decode cX2_assign 6 = .ok (.invokevirtual 34, 3) := by decide +kernel
theorem dX2_assign_9 : decode cX2_assign 9 = .ok (.aload_n 0, 1) := by decide +kernel
theorem dX2_assign_10 : decode cX2_assign 10 = .ok (.getfield 18, 3) := by decide +kernel
theorem dX2_assign_13 : decode cX2_assign 13 = .ok (.iload_n 2, 1) := by decide +kernel
theorem dX2_assign_14 : decode cX2_assign 14 = .ok (.aload_n 0, 1) := by decide +kernel
theorem dX2_assign_15 : decode cX2_assign 15 = .ok (.getfield 18, 3) := by decide +kernel
theorem dX2_assign_18 : decode cX2_assign 18 = .ok (.iload_n 2, 1) := by decide +kernel
theorem dX2_assign_19 : decode cX2_assign 19 = .ok (.invokevirtual 38, 3) := by decide +kernel
theorem dX2_assign_22 : decode cX2_assign 22 = .ok (.iconst 1, 1) := by decide +kernel
theorem dX2_assign_23 : decode cX2_assign 23 = .ok (.iadd, 1) := by decide +kernel
theorem dX2_assign_24 : decode cX2_assign 24 = .ok (.invokevirtual 34, 3) := by decide +kernel
theorem dX2_assign_27 : decode cX2_assign 27 = .ok (.return_, 1) := by decide +kernel
set_option maxRecDepth 20000 in
theorem ggX2_arrange_X6_get : GoodIn wsX2_arrange wsX6_get := goodIn_r _ [9, 10, 19] (by decide +kernel) (by decide +kernel)
set_option maxRecDepth 20000 in
theorem gX2_arrange_X6_get_n38 : GoodIn wsX2_arrange (wsX6_get) := ggX2_arrange_X6_get
set_option maxRecDepth 20000 in
theorem ggX2_arrange_X6_set : GoodIn wsX2_arrange wsX6_set := goodIn_r _ [13, 10, 19] (by decide +kernel) (by decide +kernel)
set_option maxRecDepth 20000 in
theorem gX2_arrange_X6_set_n34 : GoodIn wsX2_arrange (wsX6_set) := ggX2_arrange_X6_set
theorem dX2_arrange_0 : decode cX2_arrange 0 = .ok (.iconst 0, 1) := by decide +kernel
theorem dX2_arrange_1 : decode cX2_arrange 1 = .ok (.istore_n 1, 1) := by decide +kernel
theorem dX2_arrange_2 : decode cX2_arrange 2 = .ok (.iconst 0, 1) := by decide +kernel
theorem dX2_arrange_3 : decode cX2_arrange 3 = .ok (.istore_n 2, 1) := by decide +kernel
theorem dX2_arrange_4 : decode cX2_arrange 4 = .ok (.iload_n 2, 1) := by decide +kernel
theorem dX2_arrange_5 : decode cX2_arrange 5 = .ok (.aload_n 0, 1) := by decide +kernel
theorem dX2_arrange_6 : decode cX2_arrange 6 = .ok (.getfield 28, 3) := by decide +kernel
theorem dX2_arrange_9 : decode cX2_arrange 9 = .ok (.if_icmp .gt 29, 3) := by decide +kernel
theorem dX2_arrange_12 : decode cX2_arrange 12 = .ok (.iload_n 1, 1) := by decide +kernel
theorem dX2_arrange_13 : decode cX2_arrange 13 = .ok (.aload_n 0, 1) := by decide +kernel
theorem dX2_arrange_14 : decode cX2_arrange 14 = .ok (.getfield 18, 3) := by decide +kernel
theorem dX2_arrange_17 : decode cX2_arrange 17 = .ok (.iload_n 2, 1) := by decide +kernel
theorem dX2_arrange_18 : decode cX2_arrange 18 = .ok (.invokevirtual 38, 3) := by decide +kernel
theorem dX2_arrange_21 : decode cX2_arrange 21 = .ok (.iadd, 1) := by decide +kernel
theorem dX2_arrange_22 : decode cX2_arrange 22 = .ok (.istore_n 1, 1) := by decide +kernel
theorem dX2_arrange_23 : decode cX2_arrange 23 = .ok (.aload_n 0, 1) := by decide +kernel
theorem dX2_arrange_24 : decode cX2_arrange 24 = .ok (.getfield 18, 3) := by decide +kernel
theorem dX2_arrange_27 : decode cX2_arrange 27 = .ok (.iload_n 2, 1) := by decide +kernel
theorem dX2_arrange_28 : decode cX2_arrange 28 = .ok (.iload_n 1, 1) := by decide +kernel
theorem dX2_arrange_29 : decode cX2_arrange 29 = .ok (.invokevirtual 34, 3) := by decide +kernel
theorem dX2_arrange_32 : decode cX2_arrange 32 = .ok (.iinc 2 1, 3) := by decide +kernel
theorem dX2_arrange_35 : decode cX2_arrange 35 = .ok (.goto (-31), 3) := by decide +kernel
theorem dX2_arrange_38 : decode cX2_arrange 38 = .ok (.aload_n 0, 1) := by decide +kernel
theorem dX2_arrange_39 : decode cX2_arrange 39 = .ok (.getfield 24, 3) := by decide +kernel
theorem dX2_arrange_42 : decode cX2_arrange 42 = .ok (.iconst 1, 1) := by decide +kernel
theorem dX2_arrange_43 : decode cX2_arrange 43 = .ok (.isub, 1) := by decide +kernel
theorem dX2_arrange_44 : decode cX2_arrange 44 = .ok (.istore_n 2, 1) := by decide +kernel
theorem dX2_arrange_45 : decode cX2_arrange 45 = .ok (.iload_n 2, 1) := by decide +kernel
theorem dX2_arrange_46 : decode cX2_arrange 46 = .ok (.ifCond .lt 50, 3) := by decide +kernel
theorem dX2_arrange_49 : decode cX2_arrange 49 = .ok (.aload_n 0, 1) := by decide +kernel
theorem dX2_arrange_50 : decode cX2_arrange 50 = .ok (.getfield 12, 3) := by decide +kernel
theorem dX2_arrange_53 : decode cX2_arrange 53 = .ok (.iload_n 2, 1) := by decide +kernel
theorem dX2_arrange_54 : decode cX2_arrange 54 = .ok (.invokevirtual 38, 3) := by decide +kernel
theorem dX2_arrange_57 : decode cX2_arrange 57 = .ok (.istore_n 3, 1) := by decide +kernel
theorem dX2_arrange_58 : decode cX2_arrange 58 = .ok (.aload_n 0, 1) := by decide +kernel
theorem dX2_arrange_59 : decode cX2_arrange 59 = .ok (.getfield 18, 3) := by decide +kernel
theorem dX2_arrange_62 : decode cX2_arrange 62 = .ok (.iload_n 3, 1) := by decide +kernel
theorem dX2_arrange_63 : decode cX2_arrange 63 = .ok (.invokevirtual 38, 3) := by decide +kernel
theorem dX2_arrange_66 : decode cX2_arrange 66 = .ok (.iconst 1, 1) := by decide +kernel
theorem dX2_arrange_67 : decode cX2_arrange 67 = .ok (.isub, 1) := by decide +kernel
theorem dX2_arrange_68 : decode cX2_arrange 68 = .ok (.istore 4, 2) := by decide +kernel
theorem dX2_arrange_70 : decode cX2_arrange 70 = .ok (.aload_n 0, 1) := by decide +kernel
theorem dX2_arrange_71 : decode cX2_arrange 71 = .ok (.getfield 18, 3) := by decide +kernel
theorem dX2_arrange_74 : decode cX2_arrange 74 = .ok (.iload_n 3, 1) := by decide +kernel
theorem dX2_arrange_75 : decode cX2_arrange 75 = .ok (.iload 4, 2) := by decide +kernel
theorem dX2_arrange_77 : decode cX2_arrange 77 = .ok (.invokevirtual 34, 3) := by decide +kernel
theorem dX2_arrange_80 : decode cX2_arrange 80 = .ok (.aload_n 0, 1) := by decide +kernel
theorem dX2_arrange_81 : decode cX2_arrange 81 = .ok (.getfield 21, 3) := by decide +kernel
theorem dX2_arrange_84 : decode cX2_arrange 84 = .ok (.iload 4, 2) := by decide +kernel
theorem dX2_arrange_86 : decode cX2_arrange 86 = .ok (.iload_n 2, 1) := by decide +kernel
theorem dX2_arrange_87 : decode cX2_arrange 87 = .ok (.invokevirtual 34, 3) := by decide +kernel
theorem dX2_arrange_90 : decode cX2_arrange 90 = .ok (.iinc 2 (-1), 3) := by decide +kernel
theorem dX2_arrange_93 : decode cX2_arrange 93 = .ok (.goto (-48), 3) := by decide +kernel
