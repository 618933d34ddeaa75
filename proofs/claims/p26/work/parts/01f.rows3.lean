theorem dX7_addLine_0 : decode cX7_addLine 0 = .ok (.iload_n 1, 1) := by decide +kernel
theorem dX7_addLine_1 : decode cX7_addLine 1 = .ok (.iload_n 2, 1) := by decide +kernel
theorem dX7_addLine_2 : decode cX7_addLine 2 = .ok (.iload_n 3, 1) := by decide +kernel
theorem dX7_addLine_3 : decode cX7_addLine 3 = .ok (.invokestatic 73, 3) := by decide +kernel
theorem dX7_addLine_6 : decode cX7_addLine 6 = .ok (.aload_n 0, 1) := by decide +kernel
theorem dX7_addLine_7 : decode cX7_addLine 7 = .ok (.invokevirtual 49, 3) := by decide +kernel
theorem dX7_addLine_10 : decode cX7_addLine 10 = .ok (.aload_n 0, 1) := by decide +kernel
theorem dX7_addLine_11 : decode cX7_addLine 11 = .ok (.aload_n 0, 1) := by decide +kernel
theorem dX7_addLine_12 : decode cX7_addLine 12 = .ok (.iload_n 1, 1) := by decide +kernel
theorem dX7_addLine_13 : decode cX7_addLine 13 = .ok (.iload_n 2, 1) := by decide +kernel
theorem dX7_addLine_14 : decode cX7_addLine 14 = .ok (.iload_n 3, 1) := by decide +kernel
theorem dX7_addLine_15 : decode cX7_addLine 15 = .ok (.invokevirtual 77, 3) := by decide +kernel
theorem dX7_addLine_18 : decode cX7_addLine 18 = .ok (.invokevirtual 63, 3) := by decide +kernel
theorem dX7_addLine_21 : decode cX7_addLine 21 = .ok (.iconst 0, 1) := by decide +kernel
theorem dX7_addLine_22 : decode cX7_addLine 22 = .ok (.istore 4, 2) := by decide +kernel
theorem dX7_addLine_24 : decode cX7_addLine 24 = .ok (.iload 4, 2) := by decide +kernel
theorem dX7_addLine_26 : decode cX7_addLine 26 = .ok (.iload_n 3, 1) := by decide +kernel
theorem dX7_addLine_27 : decode cX7_addLine 27 = .ok (.if_icmp .ge 38, 3) := by decide +kernel
theorem dX7_addLine_30 : decode cX7_addLine 30 = .ok (.iload_n 1, 1) := by decide +kernel
theorem dX7_addLine_31 : decode cX7_addLine 31 = .ok (.iload 4, 2) := by decide +kernel
theorem dX7_addLine_33 : decode cX7_addLine 33 = .ok (.iload_n 2, 1) := by decide +kernel
theorem dX7_addLine_34 : decode cX7_addLine 34 = .ok (.imul, 1) := by decide +kernel
theorem dX7_addLine_35 : decode cX7_addLine 35 = .ok (.iadd, 1) := by decide +kernel
theorem dX7_addLine_36 : decode cX7_addLine 36 = .ok (.istore 5, 2) := by decide +kernel
theorem dX7_addLine_38 : decode cX7_addLine 38 = .ok (.aload_n 0, 1) := by decide +kernel
theorem dX7_addLine_39 : decode cX7_addLine 39 = .ok (.getfield 10, 3) := by decide +kernel
theorem dX7_addLine_42 : decode cX7_addLine 42 = .ok (.iload 5, 2) := by decide +kernel
theorem dX7_addLine_44 : decode cX7_addLine 44 = .ok (.invokevirtual 52, 3) := by decide +kernel
theorem dX7_addLine_47 : decode cX7_addLine 47 = .ok (.ifCond .ne 12, 3) := by decide +kernel
theorem dX7_addLine_50 : decode cX7_addLine 50 = .ok (.aload_n 0, 1) := by decide +kernel
theorem dX7_addLine_51 : decode cX7_addLine 51 = .ok (.getfield 10, 3) := by decide +kernel
theorem dX7_addLine_54 : decode cX7_addLine 54 = .ok (.iload 5, 2) := by decide +kernel
theorem dX7_addLine_56 : decode cX7_addLine 56 = .ok (.invokevirtual 66, 3) := by decide +kernel
theorem dX7_addLine_59 : decode cX7_addLine 59 = .ok (.iinc 4 1, 3) := by decide +kernel
theorem dX7_addLine_62 : decode cX7_addLine 62 = .ok (.goto (-38), 3) := by decide +kernel
theorem dX7_addLine_65 : decode cX7_addLine 65 = .ok (.aload_n 0, 1) := by decide +kernel
theorem dX7_addLine_66 : decode cX7_addLine 66 = .ok (.getfield 10, 3) := by decide +kernel
theorem dX7_addLine_69 : decode cX7_addLine 69 = .ok (.getfield 69, 3) := by decide +kernel
theorem dX7_addLine_72 : decode cX7_addLine 72 = .ok (.ireturn, 1) := by decide +kernel
set_option maxRecDepth 20000 in
theorem ggX7_remove_X7_requireKey : GoodIn wsX7_remove wsX7_requireKey := goodIn_ca (goodIn_r _ [7, 8, 9, 10] (by decide +kernel) (by decide +kernel)) (goodIn_sub (fun _ h => List.mem_cons_of_mem _ (List.mem_append_right _ h)) (by decide +kernel))
set_option maxRecDepth 20000 in
theorem gX7_remove_X7_requireKey : GoodIn wsX7_remove (va_wsS RX7 46 yX7_requireKey wsX7_requireKey) := goodIn_app (goodIn_of _ (by decide +kernel)) ggX7_remove_X7_requireKey
set_option maxRecDepth 20000 in
theorem ggX7_remove_X7_requireOpen : GoodIn wsX7_remove wsX7_requireOpen := goodIn_ca (goodIn_r _ [14, 1, 2, 15, 37, 38, 39, 40, 41, 42, 43] (by decide +kernel) (by decide +kernel)) (goodIn_sub (fun _ h => List.mem_cons_of_mem _ (List.mem_append_left _ (List.mem_append_right _ h))) (by decide +kernel))
set_option maxRecDepth 20000 in
theorem gX7_remove_X7_requireOpen : GoodIn wsX7_remove (wsV RX7 49 RX7 yX7_requireOpen wsX7_requireOpen) := goodIn_app (goodIn_of _ (by decide +kernel)) ggX7_remove_X7_requireOpen
set_option maxRecDepth 20000 in
theorem ggX7_remove_X4_holds : GoodIn wsX7_remove wsX4_holds := goodIn_r _ [19, 20, 21, 22, 23, 24, 17, 25, 26, 27, 28, 29, 30, 44, 45, 46] (by decide +kernel) (by decide +kernel)
set_option maxRecDepth 20000 in
theorem gX7_remove_X4_holds_n52 : GoodIn wsX7_remove (wsX4_holds) := ggX7_remove_X4_holds
set_option maxRecDepth 20000 in
theorem ggX7_remove_X4_delete : GoodIn wsX7_remove wsX4_delete := goodIn_r _ [33, 20, 21, 22, 23, 24, 17, 25, 26, 27, 28, 29, 30, 34, 35, 36, 44, 45, 46] (by decide +kernel) (by decide +kernel)
set_option maxRecDepth 20000 in
theorem gX7_remove_X4_delete_n83 : GoodIn wsX7_remove (wsX4_delete) := ggX7_remove_X4_delete
theorem dX7_remove_0 : decode cX7_remove 0 = .ok (.iload_n 1, 1) := by decide +kernel
theorem dX7_remove_1 : decode cX7_remove 1 = .ok (.invokestatic 46, 3) := by decide +kernel
theorem dX7_remove_4 : decode cX7_remove 4 = .ok (.aload_n 0, 1) := by decide +kernel
theorem dX7_remove_5 : decode cX7_remove 5 = .ok (.invokevirtual 49, 3) := by decide +kernel
theorem dX7_remove_8 : decode cX7_remove 8 = .ok (.aload_n 0, 1) := by decide +kernel
theorem dX7_remove_9 : decode cX7_remove 9 = .ok (.getfield 10, 3) := by decide +kernel
theorem dX7_remove_12 : decode cX7_remove 12 = .ok (.iload_n 1, 1) := by decide +kernel
theorem dX7_remove_13 : decode cX7_remove 13 = .ok (.invokevirtual 52, 3) := by decide +kernel
theorem dX7_remove_16 : decode cX7_remove 16 = .ok (.ifCond .ne 13, 3) := by decide +kernel
theorem dX7_remove_19 : decode cX7_remove 19 = .ok (.new 56, 3) := by decide +kernel
theorem dX7_remove_22 : decode cX7_remove 22 = .ok (.dup, 1) := by decide +kernel
theorem dX7_remove_23 : decode cX7_remove 23 = .ok (.ldc 81, 2) := by decide +kernel
theorem dX7_remove_25 : decode cX7_remove 25 = .ok (.invokespecial 60, 3) := by decide +kernel
theorem dX7_remove_28 : decode cX7_remove 28 = .ok (.athrow, 1) := by decide +kernel
theorem dX7_remove_29 : decode cX7_remove 29 = .ok (.aload_n 0, 1) := by decide +kernel
theorem dX7_remove_30 : decode cX7_remove 30 = .ok (.getfield 10, 3) := by decide +kernel
theorem dX7_remove_33 : decode cX7_remove 33 = .ok (.iload_n 1, 1) := by decide +kernel
theorem dX7_remove_34 : decode cX7_remove 34 = .ok (.invokevirtual 83, 3) := by decide +kernel
theorem dX7_remove_37 : decode cX7_remove 37 = .ok (.aload_n 0, 1) := by decide +kernel
theorem dX7_remove_38 : decode cX7_remove 38 = .ok (.getfield 10, 3) := by decide +kernel
theorem dX7_remove_41 : decode cX7_remove 41 = .ok (.getfield 69, 3) := by decide +kernel
theorem dX7_remove_44 : decode cX7_remove 44 = .ok (.ireturn, 1) := by decide +kernel
theorem dX7_keys_0 : decode cX7_keys 0 = .ok (.aload_n 0, 1) := by decide +kernel
theorem dX7_keys_1 : decode cX7_keys 1 = .ok (.getfield 10, 3) := by decide +kernel
theorem dX7_keys_4 : decode cX7_keys 4 = .ok (.getfield 69, 3) := by decide +kernel
theorem dX7_keys_7 : decode cX7_keys 7 = .ok (.ireturn, 1) := by decide +kernel
set_option maxRecDepth 20000 in
theorem ggX7_keyAt_X7_requireBelow : GoodIn wsX7_keyAt wsX7_requireBelow := goodIn_ca (goodIn_r _ [5, 6, 7] (by decide +kernel) (by decide +kernel)) (goodIn_sub (fun _ h => List.mem_cons_of_mem _ (List.mem_append_right _ h)) (by decide +kernel))
set_option maxRecDepth 20000 in
theorem gX7_keyAt_X7_requireBelow : GoodIn wsX7_keyAt (va_wsS RX7 86 yX7_requireBelow wsX7_requireBelow) := goodIn_app (goodIn_of _ (by decide +kernel)) ggX7_keyAt_X7_requireBelow
set_option maxRecDepth 20000 in
theorem ggX7_keyAt_X4_at : GoodIn wsX7_keyAt wsX4_at := goodIn_r _ [11, 12, 13, 14, 15, 16, 17, 25, 26, 27] (by decide +kernel) (by decide +kernel)
set_option maxRecDepth 20000 in
theorem gX7_keyAt_X4_at_n90 : GoodIn wsX7_keyAt (wsX4_at) := ggX7_keyAt_X4_at
theorem dX7_keyAt_0 : decode cX7_keyAt 0 = .ok (.iload_n 1, 1) := by decide +kernel
theorem dX7_keyAt_1 : decode cX7_keyAt 1 = .ok (.aload_n 0, 1) := by decide +kernel
theorem dX7_keyAt_2 : decode cX7_keyAt 2 = .ok (.getfield 10, 3) := by decide +kernel
theorem dX7_keyAt_5 : decode cX7_keyAt 5 = .ok (.getfield 69, 3) := by decide +kernel
theorem dX7_keyAt_8 : decode cX7_keyAt 8 = .ok (.invokestatic 86, 3) := by decide +kernel
theorem dX7_keyAt_11 : decode cX7_keyAt 11 = .ok (.aload_n 0, 1) := by decide +kernel
theorem dX7_keyAt_12 : decode cX7_keyAt 12 = .ok (.getfield 10, 3) := by decide +kernel
theorem dX7_keyAt_15 : decode cX7_keyAt 15 = .ok (.iload_n 1, 1) := by decide +kernel
theorem dX7_keyAt_16 : decode cX7_keyAt 16 = .ok (.invokevirtual 90, 3) := by decide +kernel
theorem dX7_keyAt_19 : decode cX7_keyAt 19 = .ok (.ireturn, 1) := by decide +kernel
set_option maxRecDepth 20000 in
theorem ggX7_build_X7_requireOpen : GoodIn wsX7_build wsX7_requireOpen := goodIn_ca (goodIn_r _ [14, 3, 4, 9, 216, 217, 218, 219, 220, 221, 222] (by decide +kernel) (by decide +kernel)) (goodIn_sub (fun _ h => List.mem_cons_of_mem _ (List.mem_append_right _ h)) (by decide +kernel))
set_option maxRecDepth 20000 in
theorem gX7_build_X7_requireOpen : GoodIn wsX7_build (wsV RX7 49 RX7 yX7_requireOpen wsX7_requireOpen) := goodIn_app (goodIn_of _ (by decide +kernel)) ggX7_build_X7_requireOpen
set_option maxRecDepth 20000 in
theorem ggX7_build_X0_settle : GoodIn wsX7_build wsX0_settle := goodIn_r _ [18, 19, 20, 21, 22, 13, 23, 24, 25, 26, 16, 27, 28, 29, 30, 31, 32, 33, 34, 35, 36, 37, 38, 39, 40, 41, 42, 43, 44, 45, 46, 47, 48, 49, 50, 51, 52, 53, 54, 55, 56, 57, 58, 59, 60, 61, 62, 63, 64, 65, 66, 67, 68, 69, 70, 71, 72, 73, 74, 75, 76, 77, 78, 79, 80, 81, 82, 83, 84, 85, 86, 87, 88, 89, 90, 91, 92, 93, 94, 95, 96, 97, 98, 99, 100, 101, 102, 103, 104, 105, 106, 107, 108, 109, 110, 111, 112, 113, 114, 115, 116, 117, 118, 119, 120, 121, 122, 123, 124, 125, 126, 127, 128, 129, 130, 131, 132, 133, 134, 223, 224, 225, 226, 227, 228, 229, 230, 231, 232, 233, 234, 235, 236, 237, 238, 239] (by decide +kernel) (by decide +kernel)
set_option maxRecDepth 20000 in
theorem gX7_build_X0_settle_n103 : GoodIn wsX7_build (wsX0_settle) := ggX7_build_X0_settle
set_option maxRecDepth 20000 in
theorem ggX7_build_X1_settle : GoodIn wsX7_build wsX1_settle := goodIn_r _ [138, 139, 140, 141, 142, 143, 144, 136, 145, 146, 147, 148, 32, 33, 34, 35, 36, 37, 38, 39, 40, 41, 42, 43, 44, 45, 46, 47, 48, 49, 50, 51, 52, 53, 54, 55, 149, 150, 151, 152, 61, 62, 63, 64, 65, 66, 67, 68, 69, 13, 70, 71, 72, 73, 74, 75, 76, 77, 83, 84, 85, 86, 153, 154, 155, 156, 157, 158, 159, 160, 161, 162, 163, 164, 165, 166, 167, 168, 169, 170, 171, 172, 109, 110, 111, 105, 106, 107, 124, 125, 126, 173, 174, 175, 223, 224, 240, 241, 242, 243, 244, 245, 246, 247, 234, 235, 236, 237, 238, 239] (by decide +kernel) (by decide +kernel)
set_option maxRecDepth 20000 in
theorem gX7_build_X1_settle_n107 : GoodIn wsX7_build (wsX1_settle) := ggX7_build_X1_settle
set_option maxRecDepth 20000 in
theorem ggX7_build_X7_keepFingerprints : GoodIn wsX7_build wsX7_keepFingerprints := goodIn_r _ [179, 180, 5, 181, 182, 183, 184, 13, 185, 6, 53, 40, 54, 55, 43, 48, 49, 50, 51, 52, 186, 187, 188, 189, 190, 61, 62, 63, 64, 65, 66, 67, 68, 75, 76, 77, 216, 217, 218, 219, 220, 221, 222, 223, 224, 225, 226, 227, 228, 229, 230, 231, 232, 233, 239] (by decide +kernel) (by decide +kernel)
set_option maxRecDepth 20000 in
theorem gX7_build_X7_keepFingerprints : GoodIn wsX7_build (wsV RX7 112 RX7 yX7_keepFingerprints wsX7_keepFingerprints) := goodIn_app (goodIn_of _ (by decide +kernel)) ggX7_build_X7_keepFingerprints
set_option maxRecDepth 20000 in
theorem ggX7_build_X5_pack : GoodIn wsX7_build wsX5_pack := goodIn_r _ [194, 195, 196, 197, 198, 199, 46, 200, 201, 202, 192, 203, 204, 98, 99, 100, 53, 40, 54, 55, 43, 205, 206, 207, 22, 13, 23, 208, 209, 210, 211, 212, 213, 214, 215, 248, 249, 250, 239] (by decide +kernel) (by decide +kernel)
set_option maxRecDepth 20000 in
theorem gX7_build_X5_pack_n121 : GoodIn wsX7_build (wsX5_pack) := ggX7_build_X5_pack
theorem dX7_build_0 : decode cX7_build 0 = .ok (.iload_n 1, 1) := by decide +kernel
theorem dX7_build_1 : decode cX7_build 1 = .ok (.iconst 1, 1) := by decide +kernel
theorem dX7_build_2 : decode cX7_build 2 = .ok (.if_icmp .lt 9, 3) := by decide +kernel
theorem dX7_build_5 : decode cX7_build 5 = .ok (.iload_n 1, 1) := by decide +kernel
theorem dX7_build_6 : decode cX7_build 6 = .ok (.bipush 6, 2) := by decide +kernel
theorem dX7_build_8 : decode cX7_build 8 = .ok (.if_icmp .le 13, 3) := by decide +kernel
theorem dX7_build_11 : decode cX7_build 11 = .ok (.new 94, 3) := by decide +kernel
theorem dX7_build_14 : decode cX7_build 14 = .ok (.dup, 1) := by decide +kernel
theorem dX7_build_15 : decode cX7_build 15 = .ok (.ldc 96, 2) := by decide +kernel
theorem dX7_build_17 : decode cX7_build 17 = .ok (.invokespecial 98, 3) := by decide +kernel
theorem dX7_build_20 : decode cX7_build 20 = .ok (.athrow, 1) := by decide +kernel
theorem dX7_build_21 : decode cX7_build 21 = .ok (.iload_n 2, 1) := by decide +kernel
theorem dX7_build_22 : decode cX7_build 22 = .ok (.iconst 1, 1) := by decide +kernel
theorem dX7_build_23 : decode cX7_build 23 = .ok (.if_icmp .lt 9, 3) := by decide +kernel
theorem dX7_build_26 : decode cX7_build 26 = .ok (.iload_n 2, 1) := by decide +kernel
theorem dX7_build_27 : decode cX7_build 27 = .ok (.bipush 12, 2) := by decide +kernel
theorem dX7_build_29 : decode cX7_build 29 = .ok (.if_icmp .le 13, 3) := by decide +kernel
theorem dX7_build_32 : decode cX7_build 32 = .ok (.new 94, 3) := by decide +kernel
theorem dX7_build_35 : decode cX7_build 35 = .ok (.dup, 1) := by decide +kernel
theorem dX7_build_36 : decode cX7_build 36 = .ok (.ldc 99, 2) := by decide +kernel
theorem dX7_build_38 : decode cX7_build 38 = .ok (.invokespecial 98, 3) := by decide +kernel
theorem dX7_build_41 : decode cX7_build 41 = .ok (.athrow, 1) := by decide +kernel
theorem dX7_build_42 : decode cX7_build 42 = .ok (.aload_n 0, 1) := by decide +kernel
theorem dX7_build_43 : decode cX7_build 43 = .ok (.invokevirtual 49, 3) := by decide +kernel
theorem dX7_build_46 : decode cX7_build 46 = .ok (.aload_n 0, 1) := by decide +kernel
theorem dX7_build_47 : decode cX7_build 47 = .ok (.getfield 10, 3) := by decide +kernel
theorem dX7_build_50 : decode cX7_build 50 = .ok (.getfield 69, 3) := by decide +kernel
theorem dX7_build_53 : decode cX7_build 53 = .ok (.ifCond .ne 13, 3) := by decide +kernel
theorem dX7_build_56 : decode cX7_build 56 = .ok (.new 56, 3) := by decide +kernel
theorem dX7_build_59 : decode cX7_build 59 = .ok (.dup, 1) := by decide +kernel
theorem dX7_build_60 : decode cX7_build 60 = .ok (.ldc 101, 2) := by decide +kernel
theorem dX7_build_62 : decode cX7_build 62 = .ok (.invokespecial 60, 3) := by decide +kernel
theorem dX7_build_65 : decode cX7_build 65 = .ok (.athrow, 1) := by decide +kernel
theorem dX7_build_66 : decode cX7_build 66 = .ok (.aload_n 0, 1) := by decide +kernel
theorem dX7_build_67 : decode cX7_build 67 = .ok (.getfield 19, 3) := by decide +kernel
theorem dX7_build_70 : decode cX7_build 70 = .ok (.aload_n 0, 1) := by decide +kernel
theorem dX7_build_71 : decode cX7_build 71 = .ok (.getfield 10, 3) := by decide +kernel
theorem dX7_build_74 : decode cX7_build 74 = .ok (.iload_n 1, 1) := by decide +kernel
theorem dX7_build_75 : decode cX7_build 75 = .ok (.invokevirtual 103, 3) := by decide +kernel
theorem dX7_build_78 : decode cX7_build 78 = .ok (.ifCond .eq 17, 3) := by decide +kernel
theorem dX7_build_81 : decode cX7_build 81 = .ok (.aload_n 0, 1) := by decide +kernel
theorem dX7_build_82 : decode cX7_build 82 = .ok (.getfield 33, 3) := by decide +kernel
theorem dX7_build_85 : decode cX7_build 85 = .ok (.aload_n 0, 1) := by decide +kernel
theorem dX7_build_86 : decode cX7_build 86 = .ok (.getfield 10, 3) := by decide +kernel
theorem dX7_build_89 : decode cX7_build 89 = .ok (.invokevirtual 107, 3) := by decide +kernel
theorem dX7_build_92 : decode cX7_build 92 = .ok (.ifCond .ne 13, 3) := by decide +kernel
theorem dX7_build_95 : decode cX7_build 95 = .ok (.new 56, 3) := by decide +kernel
theorem dX7_build_98 : decode cX7_build 98 = .ok (.dup, 1) := by decide +kernel
theorem dX7_build_99 : decode cX7_build 99 = .ok (.ldc 110, 2) := by decide +kernel
theorem dX7_build_101 : decode cX7_build 101 = .ok (.invokespecial 60, 3) := by decide +kernel
theorem dX7_build_104 : decode cX7_build 104 = .ok (.athrow, 1) := by decide +kernel
theorem dX7_build_105 : decode cX7_build 105 = .ok (.aload_n 0, 1) := by decide +kernel
theorem dX7_build_106 : decode cX7_build 106 = .ok (.iload_n 2, 1) := by decide +kernel
theorem dX7_build_107 : decode cX7_build 107 = .ok (.invokevirtual 112, 3) := by decide +kernel
theorem dX7_build_110 : decode cX7_build 110 = .ok (.aload_n 0, 1) := by decide +kernel
theorem dX7_build_111 : decode cX7_build 111 = .ok (.getfield 26, 3) := by decide +kernel
theorem dX7_build_114 : decode cX7_build 114 = .ok (.aload_n 0, 1) := by decide +kernel
theorem dX7_build_115 : decode cX7_build 115 = .ok (.getfield 19, 3) := by decide +kernel
theorem dX7_build_118 : decode cX7_build 118 = .ok (.getfield 115, 3) := by decide +kernel
theorem dX7_build_121 : decode cX7_build 121 = .ok (.aload_n 0, 1) := by decide +kernel
theorem dX7_build_122 : decode cX7_build 122 = .ok (.getfield 19, 3) := by decide +kernel
theorem dX7_build_125 : decode cX7_build 125 = .ok (.getfield 118, 3) := by decide +kernel
theorem dX7_build_128 : decode cX7_build 128 = .ok (.invokevirtual 121, 3) := by decide +kernel
theorem dX7_build_131 : decode cX7_build 131 = .ok (.aload_n 0, 1) := by decide +kernel
theorem dX7_build_132 : decode cX7_build 132 = .ok (.iconst 1, 1) := by decide +kernel
theorem dX7_build_133 : decode cX7_build 133 = .ok (.putfield 125, 3) := by decide +kernel
theorem dX7_build_136 : decode cX7_build 136 = .ok (.aload_n 0, 1) := by decide +kernel
theorem dX7_build_137 : decode cX7_build 137 = .ok (.getfield 19, 3) := by decide +kernel
theorem dX7_build_140 : decode cX7_build 140 = .ok (.getfield 129, 3) := by decide +kernel
theorem dX7_build_143 : decode cX7_build 143 = .ok (.ireturn, 1) := by decide +kernel
set_option maxRecDepth 20000 in
theorem ggX7_reopen_X7_requireBuilt : GoodIn wsX7_reopen wsX7_requireBuilt := goodIn_ca (goodIn_r _ [6, 7, 8, 1, 9, 10, 11, 12, 13, 14, 15] (by decide +kernel) (by decide +kernel)) (goodIn_sub (fun _ h => List.mem_cons_of_mem _ (List.mem_append_right _ h)) (by decide +kernel))
set_option maxRecDepth 20000 in
theorem gX7_reopen_X7_requireBuilt : GoodIn wsX7_reopen (wsV RX7 132 RX7 yX7_requireBuilt wsX7_requireBuilt) := goodIn_app (goodIn_of _ (by decide +kernel)) ggX7_reopen_X7_requireBuilt
theorem dX7_reopen_0 : decode cX7_reopen 0 = .ok (.aload_n 0, 1) := by decide +kernel
theorem dX7_reopen_1 : decode cX7_reopen 1 = .ok (.invokevirtual 132, 3) := by decide +kernel
theorem dX7_reopen_4 : decode cX7_reopen 4 = .ok (.aload_n 0, 1) := by decide +kernel
theorem dX7_reopen_5 : decode cX7_reopen 5 = .ok (.iconst 0, 1) := by decide +kernel
theorem dX7_reopen_6 : decode cX7_reopen 6 = .ok (.putfield 125, 3) := by decide +kernel
theorem dX7_reopen_9 : decode cX7_reopen 9 = .ok (.return_, 1) := by decide +kernel
set_option maxRecDepth 20000 in
theorem ggX7_number_X7_requireKey : GoodIn wsX7_number wsX7_requireKey := goodIn_ca (goodIn_r _ [5, 6, 7, 8] (by decide +kernel) (by decide +kernel)) (goodIn_sub (fun _ h => List.mem_cons_of_mem _ (List.mem_append_left _ (List.mem_append_right _ h))) (by decide +kernel))
set_option maxRecDepth 20000 in
theorem gX7_number_X7_requireKey : GoodIn wsX7_number (va_wsS RX7 46 yX7_requireKey wsX7_requireKey) := goodIn_app (goodIn_of _ (by decide +kernel)) ggX7_number_X7_requireKey
set_option maxRecDepth 20000 in
theorem ggX7_number_X7_requireBuilt : GoodIn wsX7_number wsX7_requireBuilt := goodIn_ca (goodIn_r _ [12, 13, 14, 15, 50, 51, 52, 53, 54, 55, 56] (by decide +kernel) (by decide +kernel)) (goodIn_sub (fun _ h => List.mem_cons_of_mem _ (List.mem_append_right _ h)) (by decide +kernel))
set_option maxRecDepth 20000 in
theorem gX7_number_X7_requireBuilt : GoodIn wsX7_number (wsV RX7 132 RX7 yX7_requireBuilt wsX7_requireBuilt) := goodIn_app (goodIn_of _ (by decide +kernel)) ggX7_number_X7_requireBuilt
set_option maxRecDepth 20000 in
theorem ggX7_number_X0_numberOf : GoodIn wsX7_number wsX0_numberOf := goodIn_r _ [19, 20, 21, 22, 23, 24, 25, 26, 17, 27, 28, 29, 30, 31, 32, 33, 34, 35, 36, 37, 38, 4, 39, 40, 41, 42, 43, 44, 45, 46, 47, 48, 49, 57, 58, 59, 60, 61, 62, 63, 64, 65, 66] (by decide +kernel) (by decide +kernel)
set_option maxRecDepth 20000 in
theorem gX7_number_X0_numberOf_n135 : GoodIn wsX7_number (wsX0_numberOf) := ggX7_number_X0_numberOf
theorem dX7_number_0 : decode cX7_number 0 = .ok (.iload_n 1, 1) := by decide +kernel
theorem dX7_number_1 : decode cX7_number 1 = .ok (.invokestatic 46, 3) := by decide +kernel
theorem dX7_number_4 : decode cX7_number 4 = .ok (.aload_n 0, 1) := by decide +kernel
theorem dX7_number_5 : decode cX7_number 5 = .ok (.invokevirtual 132, 3) := by decide +kernel
theorem dX7_number_8 : decode cX7_number 8 = .ok (.aload_n 0, 1) := by decide +kernel
theorem dX7_number_9 : decode cX7_number 9 = .ok (.getfield 19, 3) := by decide +kernel
theorem dX7_number_12 : decode cX7_number 12 = .ok (.iload_n 1, 1) := by decide +kernel
theorem dX7_number_13 : decode cX7_number 13 = .ok (.invokevirtual 135, 3) := by decide +kernel
theorem dX7_number_16 : decode cX7_number 16 = .ok (.ireturn, 1) := by decide +kernel
set_option maxRecDepth 20000 in
theorem ggX7_find_X7_requireKey : GoodIn wsX7_find wsX7_requireKey := goodIn_ca (goodIn_r _ [4, 5, 6, 7] (by decide +kernel) (by decide +kernel)) (goodIn_sub (fun _ h => List.mem_cons_of_mem _ (List.mem_append_left _ (List.mem_append_right _ h))) (by decide +kernel))
set_option maxRecDepth 20000 in
theorem gX7_find_X7_requireKey : GoodIn wsX7_find (va_wsS RX7 46 yX7_requireKey wsX7_requireKey) := goodIn_app (goodIn_of _ (by decide +kernel)) ggX7_find_X7_requireKey
set_option maxRecDepth 20000 in
theorem ggX7_find_X7_requireBuilt : GoodIn wsX7_find wsX7_requireBuilt := goodIn_ca (goodIn_r _ [11, 12, 13, 14, 61, 62, 63, 64, 65, 66, 67] (by decide +kernel) (by decide +kernel)) (goodIn_sub (fun _ h => List.mem_cons_of_mem _ (List.mem_append_right _ h)) (by decide +kernel))
set_option maxRecDepth 20000 in
theorem gX7_find_X7_requireBuilt : GoodIn wsX7_find (wsV RX7 132 RX7 yX7_requireBuilt wsX7_requireBuilt) := goodIn_app (goodIn_of _ (by decide +kernel)) ggX7_find_X7_requireBuilt
set_option maxRecDepth 20000 in
theorem ggX7_find_X7_lookUp : GoodIn wsX7_find wsX7_lookUp := goodIn_r _ [18, 19, 20, 21, 22, 23, 24, 25, 26, 27, 28, 29, 30, 31, 32, 33, 34, 35, 36, 37, 38, 39, 40, 41, 42, 43, 3, 44, 45, 46, 47, 48, 49, 50, 51, 52, 53, 54, 55, 56, 57, 58, 59, 60, 61, 62, 63, 64, 65, 66, 67, 68, 69, 70, 71, 72, 73, 74, 75, 76, 77] (by decide +kernel) (by decide +kernel)
set_option maxRecDepth 20000 in
theorem gX7_find_X7_lookUp : GoodIn wsX7_find (wsV RX7 138 RX7 yX7_lookUp wsX7_lookUp) := goodIn_app (goodIn_of _ (by decide +kernel)) ggX7_find_X7_lookUp
theorem dX7_find_0 : decode cX7_find 0 = .ok (.iload_n 1, 1) := by decide +kernel
theorem dX7_find_1 : decode cX7_find 1 = .ok (.invokestatic 46, 3) := by decide +kernel
theorem dX7_find_4 : decode cX7_find 4 = .ok (.aload_n 0, 1) := by decide +kernel
theorem dX7_find_5 : decode cX7_find 5 = .ok (.invokevirtual 132, 3) := by decide +kernel
theorem dX7_find_8 : decode cX7_find 8 = .ok (.aload_n 0, 1) := by decide +kernel
theorem dX7_find_9 : decode cX7_find 9 = .ok (.iload_n 1, 1) := by decide +kernel
theorem dX7_find_10 : decode cX7_find 10 = .ok (.invokevirtual 138, 3) := by decide +kernel
theorem dX7_find_13 : decode cX7_find 13 = .ok (.ireturn, 1) := by decide +kernel
set_option maxRecDepth 20000 in
theorem ggX7_keyOf_X7_requireBuilt : GoodIn wsX7_keyOf wsX7_requireBuilt := goodIn_ca (goodIn_r _ [6, 7, 8, 9, 30, 31, 32, 33, 34, 35, 36] (by decide +kernel) (by decide +kernel)) (goodIn_sub (fun _ h => List.mem_cons_of_mem _ (List.mem_append_left _ (List.mem_append_right _ h))) (by decide +kernel))
set_option maxRecDepth 20000 in
theorem gX7_keyOf_X7_requireBuilt : GoodIn wsX7_keyOf (wsV RX7 132 RX7 yX7_requireBuilt wsX7_requireBuilt) := goodIn_app (goodIn_of _ (by decide +kernel)) ggX7_keyOf_X7_requireBuilt
set_option maxRecDepth 20000 in
theorem ggX7_keyOf_X7_requireBelow : GoodIn wsX7_keyOf wsX7_requireBelow := goodIn_ca (goodIn_r _ [12, 13, 14] (by decide +kernel) (by decide +kernel)) (goodIn_sub (fun _ h => List.mem_cons_of_mem _ (List.mem_append_right _ h)) (by decide +kernel))
set_option maxRecDepth 20000 in
theorem gX7_keyOf_X7_requireBelow : GoodIn wsX7_keyOf (va_wsS RX7 86 yX7_requireBelow wsX7_requireBelow) := goodIn_app (goodIn_of _ (by decide +kernel)) ggX7_keyOf_X7_requireBelow
set_option maxRecDepth 20000 in
theorem ggX7_keyOf_X7_keyWithNumber : GoodIn wsX7_keyOf wsX7_keyWithNumber := goodIn_r _ [18, 1, 19, 20, 21, 22, 23, 24, 25, 26, 27, 28, 29, 30, 31, 32, 33, 34, 35, 36, 39, 40, 41, 42, 43, 44, 45, 46, 47, 48, 37, 38] (by decide +kernel) (by decide +kernel)
set_option maxRecDepth 20000 in
theorem gX7_keyOf_X7_keyWithNumber : GoodIn wsX7_keyOf (wsV RX7 143 RX7 yX7_keyWithNumber wsX7_keyWithNumber) := goodIn_app (goodIn_of _ (by decide +kernel)) ggX7_keyOf_X7_keyWithNumber
theorem dX7_keyOf_0 : decode cX7_keyOf 0 = .ok (.aload_n 0, 1) := by decide +kernel
theorem dX7_keyOf_1 : decode cX7_keyOf 1 = .ok (.invokevirtual 132, 3) := by decide +kernel
theorem dX7_keyOf_4 : decode cX7_keyOf 4 = .ok (.iload_n 1, 1) := by decide +kernel
theorem dX7_keyOf_5 : decode cX7_keyOf 5 = .ok (.aload_n 0, 1) := by decide +kernel
theorem dX7_keyOf_6 : decode cX7_keyOf 6 = .ok (.getfield 10, 3) := by decide +kernel
theorem dX7_keyOf_9 : decode cX7_keyOf 9 = .ok (.getfield 69, 3) := by decide +kernel
theorem dX7_keyOf_12 : decode cX7_keyOf 12 = .ok (.invokestatic 86, 3) := by decide +kernel
theorem dX7_keyOf_15 : decode cX7_keyOf 15 = .ok (.aload_n 0, 1) := by decide +kernel
theorem dX7_keyOf_16 : decode cX7_keyOf 16 = .ok (.iload_n 1, 1) := by decide +kernel
theorem dX7_keyOf_17 : decode cX7_keyOf 17 = .ok (.invokevirtual 143, 3) := by decide +kernel
theorem dX7_keyOf_20 : decode cX7_keyOf 20 = .ok (.ireturn, 1) := by decide +kernel
set_option maxRecDepth 20000 in
theorem ggX7_seed_X7_requireBuilt : GoodIn wsX7_seed wsX7_requireBuilt := goodIn_ca (goodIn_r _ [6, 7, 8, 9, 10, 11, 12, 13, 14, 15, 16] (by decide +kernel) (by decide +kernel)) (goodIn_sub (fun _ h => List.mem_cons_of_mem _ (List.mem_append_right _ h)) (by decide +kernel))
set_option maxRecDepth 20000 in
theorem gX7_seed_X7_requireBuilt : GoodIn wsX7_seed (wsV RX7 132 RX7 yX7_requireBuilt wsX7_requireBuilt) := goodIn_app (goodIn_of _ (by decide +kernel)) ggX7_seed_X7_requireBuilt
theorem dX7_seed_0 : decode cX7_seed 0 = .ok (.aload_n 0, 1) := by decide +kernel
theorem dX7_seed_1 : decode cX7_seed 1 = .ok (.invokevirtual 132, 3) := by decide +kernel
theorem dX7_seed_4 : decode cX7_seed 4 = .ok (.aload_n 0, 1) := by decide +kernel
theorem dX7_seed_5 : decode cX7_seed 5 = .ok (.getfield 19, 3) := by decide +kernel
theorem dX7_seed_8 : decode cX7_seed 8 = .ok (.getfield 129, 3) := by decide +kernel
theorem dX7_seed_11 : decode cX7_seed 11 = .ok (.ireturn, 1) := by decide +kernel
set_option maxRecDepth 20000 in
theorem ggX7_buckets_X7_requireBuilt : GoodIn wsX7_buckets wsX7_requireBuilt := goodIn_ca (goodIn_r _ [6, 7, 8, 9, 10, 11, 12, 13, 14, 15, 16] (by decide +kernel) (by decide +kernel)) (goodIn_sub (fun _ h => List.mem_cons_of_mem _ (List.mem_append_right _ h)) (by decide +kernel))
set_option maxRecDepth 20000 in
theorem gX7_buckets_X7_requireBuilt : GoodIn wsX7_buckets (wsV RX7 132 RX7 yX7_requireBuilt wsX7_requireBuilt) := goodIn_app (goodIn_of _ (by decide +kernel)) ggX7_buckets_X7_requireBuilt
theorem dX7_buckets_0 : decode cX7_buckets 0 = .ok (.aload_n 0, 1) := by decide +kernel
theorem dX7_buckets_1 : decode cX7_buckets 1 = .ok (.invokevirtual 132, 3) := by decide +kernel
theorem dX7_buckets_4 : decode cX7_buckets 4 = .ok (.aload_n 0, 1) := by decide +kernel
theorem dX7_buckets_5 : decode cX7_buckets 5 = .ok (.getfield 19, 3) := by decide +kernel
theorem dX7_buckets_8 : decode cX7_buckets 8 = .ok (.getfield 118, 3) := by decide +kernel
theorem dX7_buckets_11 : decode cX7_buckets 11 = .ok (.ireturn, 1) := by decide +kernel
set_option maxRecDepth 20000 in
theorem ggX7_inBucket_X7_requireBuilt : GoodIn wsX7_inBucket wsX7_requireBuilt := goodIn_ca (goodIn_r _ [6, 7, 8, 9, 33, 34, 35, 36, 37, 38, 39] (by decide +kernel) (by decide +kernel)) (goodIn_sub (fun _ h => List.mem_cons_of_mem _ (List.mem_append_left _ (List.mem_append_right _ h))) (by decide +kernel))
set_option maxRecDepth 20000 in
theorem gX7_inBucket_X7_requireBuilt : GoodIn wsX7_inBucket (wsV RX7 132 RX7 yX7_requireBuilt wsX7_requireBuilt) := goodIn_app (goodIn_of _ (by decide +kernel)) ggX7_inBucket_X7_requireBuilt
set_option maxRecDepth 20000 in
theorem ggX7_inBucket_X7_requireBelow : GoodIn wsX7_inBucket wsX7_requireBelow := goodIn_ca (goodIn_r _ [12, 13, 14] (by decide +kernel) (by decide +kernel)) (goodIn_sub (fun _ h => List.mem_cons_of_mem _ (List.mem_append_right _ h)) (by decide +kernel))
set_option maxRecDepth 20000 in
theorem gX7_inBucket_X7_requireBelow : GoodIn wsX7_inBucket (va_wsS RX7 86 yX7_requireBelow wsX7_requireBelow) := goodIn_app (goodIn_of _ (by decide +kernel)) ggX7_inBucket_X7_requireBelow
set_option maxRecDepth 20000 in
theorem ggX7_inBucket_X2_sizeOf : GoodIn wsX7_inBucket wsX2_sizeOf := goodIn_r _ [18, 19, 20, 21, 16, 22, 23, 24, 25, 26, 27, 28, 29, 30, 31, 32, 49, 50, 51, 52, 53, 54] (by decide +kernel) (by decide +kernel)
set_option maxRecDepth 20000 in
theorem gX7_inBucket_X2_sizeOf_n153 : GoodIn wsX7_inBucket (wsX2_sizeOf) := ggX7_inBucket_X2_sizeOf
theorem dX7_inBucket_0 : decode cX7_inBucket 0 = .ok (.aload_n 0, 1) := by decide +kernel
theorem dX7_inBucket_1 : decode cX7_inBucket 1 = .ok (.invokevirtual 132, 3) := by decide +kernel
theorem dX7_inBucket_4 : decode cX7_inBucket 4 = .ok (.iload_n 1, 1) := by decide +kernel
theorem dX7_inBucket_5 : decode cX7_inBucket 5 = .ok (.aload_n 0, 1) := by decide +kernel
theorem dX7_inBucket_6 : decode cX7_inBucket 6 = .ok (.getfield 19, 3) := by decide +kernel
theorem dX7_inBucket_9 : decode cX7_inBucket 9 = .ok (.getfield 118, 3) := by decide +kernel
theorem dX7_inBucket_12 : decode cX7_inBucket 12 = .ok (.invokestatic 86, 3) := by decide +kernel
theorem dX7_inBucket_15 : decode cX7_inBucket 15 = .ok (.aload_n 0, 1) := by decide +kernel
theorem dX7_inBucket_16 : decode cX7_inBucket 16 = .ok (.getfield 19, 3) := by decide +kernel
theorem dX7_inBucket_19 : decode cX7_inBucket 19 = .ok (.getfield 149, 3) := by decide +kernel
theorem dX7_inBucket_22 : decode cX7_inBucket 22 = .ok (.iload_n 1, 1) := by decide +kernel
theorem dX7_inBucket_23 : decode cX7_inBucket 23 = .ok (.invokevirtual 153, 3) := by decide +kernel
theorem dX7_inBucket_26 : decode cX7_inBucket 26 = .ok (.ireturn, 1) := by decide +kernel
set_option maxRecDepth 20000 in
theorem ggX7_displacement_X7_requireBuilt : GoodIn wsX7_displacement wsX7_requireBuilt := goodIn_ca (goodIn_r _ [6, 7, 8, 9, 20, 21, 22, 23, 24, 25, 26] (by decide +kernel) (by decide +kernel)) (goodIn_sub (fun _ h => List.mem_cons_of_mem _ (List.mem_append_left _ (List.mem_append_right _ h))) (by decide +kernel))
set_option maxRecDepth 20000 in
theorem gX7_displacement_X7_requireBuilt : GoodIn wsX7_displacement (wsV RX7 132 RX7 yX7_requireBuilt wsX7_requireBuilt) := goodIn_app (goodIn_of _ (by decide +kernel)) ggX7_displacement_X7_requireBuilt
set_option maxRecDepth 20000 in
theorem ggX7_displacement_X7_requireBelow : GoodIn wsX7_displacement wsX7_requireBelow := goodIn_ca (goodIn_r _ [12, 13, 14] (by decide +kernel) (by decide +kernel)) (goodIn_sub (fun _ h => List.mem_cons_of_mem _ (List.mem_append_right _ h)) (by decide +kernel))
set_option maxRecDepth 20000 in
theorem gX7_displacement_X7_requireBelow : GoodIn wsX7_displacement (va_wsS RX7 86 yX7_requireBelow wsX7_requireBelow) := goodIn_app (goodIn_of _ (by decide +kernel)) ggX7_displacement_X7_requireBelow
set_option maxRecDepth 20000 in
theorem ggX7_displacement_X6_get : GoodIn wsX7_displacement wsX6_get := goodIn_r _ [18, 19, 36] (by decide +kernel) (by decide +kernel)
set_option maxRecDepth 20000 in
theorem gX7_displacement_X6_get_n146 : GoodIn wsX7_displacement (wsX6_get) := ggX7_displacement_X6_get
theorem dX7_displacement_0 : decode cX7_displacement 0 = .ok (.aload_n 0, 1) := by decide +kernel
theorem dX7_displacement_1 : decode cX7_displacement 1 = .ok (.invokevirtual 132, 3) := by decide +kernel
theorem dX7_displacement_4 : decode cX7_displacement 4 = .ok (.iload_n 1, 1) := by decide +kernel
theorem dX7_displacement_5 : decode cX7_displacement 5 = .ok (.aload_n 0, 1) := by decide +kernel
theorem dX7_displacement_6 : decode cX7_displacement 6 = .ok (.getfield 19, 3) := by decide +kernel
theorem dX7_displacement_9 : decode cX7_displacement 9 = .ok (.getfield 118, 3) := by decide +kernel
theorem dX7_displacement_12 : decode cX7_displacement 12 = .ok (.invokestatic 86, 3) := by decide +kernel
theorem dX7_displacement_15 : decode cX7_displacement 15 = .ok (.aload_n 0, 1) := by decide +kernel
theorem dX7_displacement_16 : decode cX7_displacement 16 = .ok (.getfield 19, 3) := by decide +kernel
theorem dX7_displacement_19 : decode cX7_displacement 19 = .ok (.getfield 115, 3) := by decide +kernel
theorem dX7_displacement_22 : decode cX7_displacement 22 = .ok (.iload_n 1, 1) := by decide +kernel
theorem dX7_displacement_23 : decode cX7_displacement 23 = .ok (.invokevirtual 146, 3) := by decide +kernel
theorem dX7_displacement_26 : decode cX7_displacement 26 = .ok (.ireturn, 1) := by decide +kernel
set_option maxRecDepth 20000 in
theorem ggX7_width_X7_requireBuilt : GoodIn wsX7_width wsX7_requireBuilt := goodIn_ca (goodIn_r _ [6, 7, 8, 9, 10, 11, 12, 13, 14, 15, 16] (by decide +kernel) (by decide +kernel)) (goodIn_sub (fun _ h => List.mem_cons_of_mem _ (List.mem_append_right _ h)) (by decide +kernel))
set_option maxRecDepth 20000 in
theorem gX7_width_X7_requireBuilt : GoodIn wsX7_width (wsV RX7 132 RX7 yX7_requireBuilt wsX7_requireBuilt) := goodIn_app (goodIn_of _ (by decide +kernel)) ggX7_width_X7_requireBuilt
theorem dX7_width_0 : decode cX7_width 0 = .ok (.aload_n 0, 1) := by decide +kernel
theorem dX7_width_1 : decode cX7_width 1 = .ok (.invokevirtual 132, 3) := by decide +kernel
theorem dX7_width_4 : decode cX7_width 4 = .ok (.aload_n 0, 1) := by decide +kernel
theorem dX7_width_5 : decode cX7_width 5 = .ok (.getfield 26, 3) := by decide +kernel
theorem dX7_width_8 : decode cX7_width 8 = .ok (.getfield 158, 3) := by decide +kernel
theorem dX7_width_11 : decode cX7_width 11 = .ok (.ireturn, 1) := by decide +kernel
set_option maxRecDepth 20000 in
theorem ggX7_word_X7_requireBuilt : GoodIn wsX7_word wsX7_requireBuilt := goodIn_ca (goodIn_r _ [6, 7, 8, 9, 20, 21, 22, 23, 24, 25, 26] (by decide +kernel) (by decide +kernel)) (goodIn_sub (fun _ h => List.mem_cons_of_mem _ (List.mem_append_left _ (List.mem_append_right _ h))) (by decide +kernel))
set_option maxRecDepth 20000 in
theorem gX7_word_X7_requireBuilt : GoodIn wsX7_word (wsV RX7 132 RX7 yX7_requireBuilt wsX7_requireBuilt) := goodIn_app (goodIn_of _ (by decide +kernel)) ggX7_word_X7_requireBuilt
set_option maxRecDepth 20000 in
theorem ggX7_word_X7_requireBelow : GoodIn wsX7_word wsX7_requireBelow := goodIn_ca (goodIn_r _ [12, 13, 14] (by decide +kernel) (by decide +kernel)) (goodIn_sub (fun _ h => List.mem_cons_of_mem _ (List.mem_append_right _ h)) (by decide +kernel))
set_option maxRecDepth 20000 in
theorem gX7_word_X7_requireBelow : GoodIn wsX7_word (va_wsS RX7 86 yX7_requireBelow wsX7_requireBelow) := goodIn_app (goodIn_of _ (by decide +kernel)) ggX7_word_X7_requireBelow
set_option maxRecDepth 20000 in
theorem ggX7_word_X5_wordAt : GoodIn wsX7_word wsX5_wordAt := goodIn_r _ [18, 19, 27, 28, 29] (by decide +kernel) (by decide +kernel)
set_option maxRecDepth 20000 in
theorem gX7_word_X5_wordAt_n164 : GoodIn wsX7_word (wsX5_wordAt) := ggX7_word_X5_wordAt
theorem dX7_word_0 : decode cX7_word 0 = .ok (.aload_n 0, 1) := by decide +kernel
theorem dX7_word_1 : decode cX7_word 1 = .ok (.invokevirtual 132, 3) := by decide +kernel
theorem dX7_word_4 : decode cX7_word 4 = .ok (.iload_n 1, 1) := by decide +kernel
theorem dX7_word_5 : decode cX7_word 5 = .ok (.aload_n 0, 1) := by decide +kernel
theorem dX7_word_6 : decode cX7_word 6 = .ok (.getfield 26, 3) := by decide +kernel
theorem dX7_word_9 : decode cX7_word 9 = .ok (.getfield 161, 3) := by decide +kernel
theorem dX7_word_12 : decode cX7_word 12 = .ok (.invokestatic 86, 3) := by decide +kernel
theorem dX7_word_15 : decode cX7_word 15 = .ok (.aload_n 0, 1) := by decide +kernel
theorem dX7_word_16 : decode cX7_word 16 = .ok (.getfield 26, 3) := by decide +kernel
theorem dX7_word_19 : decode cX7_word 19 = .ok (.iload_n 1, 1) := by decide +kernel
theorem dX7_word_20 : decode cX7_word 20 = .ok (.invokevirtual 164, 3) := by decide +kernel
theorem dX7_word_23 : decode cX7_word 23 = .ok (.lreturn, 1) := by decide +kernel
set_option maxRecDepth 20000 in
theorem ggX7_byGraph_X7_requireKey : GoodIn wsX7_byGraph wsX7_requireKey := goodIn_ca (goodIn_r _ [5, 6, 7, 8] (by decide +kernel) (by decide +kernel)) (goodIn_sub (fun _ h => List.mem_cons_of_mem _ (List.mem_append_left _ (List.mem_append_right _ h))) (by decide +kernel))
set_option maxRecDepth 20000 in
theorem gX7_byGraph_X7_requireKey : GoodIn wsX7_byGraph (va_wsS RX7 46 yX7_requireKey wsX7_requireKey) := goodIn_app (goodIn_of _ (by decide +kernel)) ggX7_byGraph_X7_requireKey
set_option maxRecDepth 20000 in
theorem ggX7_byGraph_X7_requireBuilt : GoodIn wsX7_byGraph wsX7_requireBuilt := goodIn_ca (goodIn_r _ [12, 13, 14, 15, 45, 46, 47, 48, 49, 50, 51] (by decide +kernel) (by decide +kernel)) (goodIn_sub (fun _ h => List.mem_cons_of_mem _ (List.mem_append_right _ h)) (by decide +kernel))
set_option maxRecDepth 20000 in
theorem gX7_byGraph_X7_requireBuilt : GoodIn wsX7_byGraph (wsV RX7 132 RX7 yX7_requireBuilt wsX7_requireBuilt) := goodIn_app (goodIn_of _ (by decide +kernel)) ggX7_byGraph_X7_requireBuilt
set_option maxRecDepth 20000 in
theorem ggX7_byGraph_X1_sumFor : GoodIn wsX7_byGraph wsX1_sumFor := goodIn_r _ [19, 20, 21, 22, 23, 24, 25, 26, 17, 27, 28, 29, 30, 31, 32, 33, 34, 35, 36, 37, 38, 4, 39, 40, 41, 42, 43, 44, 52, 53, 54, 55, 56, 57, 58, 59, 60] (by decide +kernel) (by decide +kernel)
set_option maxRecDepth 20000 in
theorem gX7_byGraph_X1_sumFor_n168 : GoodIn wsX7_byGraph (wsX1_sumFor) := ggX7_byGraph_X1_sumFor
theorem dX7_byGraph_0 : decode cX7_byGraph 0 = .ok (.iload_n 1, 1) := by decide +kernel
theorem dX7_byGraph_1 : decode cX7_byGraph 1 = .ok (.invokestatic 46, 3) := by decide +kernel
theorem dX7_byGraph_4 : decode cX7_byGraph 4 = .ok (.aload_n 0, 1) := by decide +kernel
theorem dX7_byGraph_5 : decode cX7_byGraph 5 = .ok (.invokevirtual 132, 3) := by decide +kernel
theorem dX7_byGraph_8 : decode cX7_byGraph 8 = .ok (.aload_n 0, 1) := by decide +kernel
theorem dX7_byGraph_9 : decode cX7_byGraph 9 = .ok (.getfield 33, 3) := by decide +kernel
theorem dX7_byGraph_12 : decode cX7_byGraph 12 = .ok (.iload_n 1, 1) := by decide +kernel
theorem dX7_byGraph_13 : decode cX7_byGraph 13 = .ok (.invokevirtual 168, 3) := by decide +kernel
theorem dX7_byGraph_16 : decode cX7_byGraph 16 = .ok (.ireturn, 1) := by decide +kernel
theorem dX7_requireKey_0 : decode cX7_requireKey 0 = .ok (.iload_n 0, 1) := by decide +kernel
theorem dX7_requireKey_1 : decode cX7_requireKey 1 = .ok (.ifCond .lt 9, 3) := by decide +kernel
theorem dX7_requireKey_4 : decode cX7_requireKey 4 = .ok (.iload_n 0, 1) := by decide +kernel
theorem dX7_requireKey_5 : decode cX7_requireKey 5 = .ok (.ldc 178, 2) := by decide +kernel
theorem dX7_requireKey_7 : decode cX7_requireKey 7 = .ok (.if_icmp .le 13, 3) := by decide +kernel
theorem dX7_requireKey_10 : decode cX7_requireKey 10 = .ok (.new 94, 3) := by decide +kernel
theorem dX7_requireKey_13 : decode cX7_requireKey 13 = .ok (.dup, 1) := by decide +kernel
theorem dX7_requireKey_14 : decode cX7_requireKey 14 = .ok (.ldc 179, 2) := by decide +kernel
theorem dX7_requireKey_16 : decode cX7_requireKey 16 = .ok (.invokespecial 98, 3) := by decide +kernel
theorem dX7_requireKey_19 : decode cX7_requireKey 19 = .ok (.athrow, 1) := by decide +kernel
theorem dX7_requireKey_20 : decode cX7_requireKey 20 = .ok (.return_, 1) := by decide +kernel
set_option maxRecDepth 20000 in
theorem ggX7_requireLine_X7_requireKey : GoodIn wsX7_requireLine wsX7_requireKey := goodIn_ca (goodIn_r _ [6, 1, 2, 7] (by decide +kernel) (by decide +kernel)) (goodIn_sub (fun _ h => List.mem_cons_of_mem _ (List.mem_append_right _ h)) (by decide +kernel))
set_option maxRecDepth 20000 in
theorem gX7_requireLine_X7_requireKey : GoodIn wsX7_requireLine (va_wsS RX7 46 yX7_requireKey wsX7_requireKey) := goodIn_app (goodIn_of _ (by decide +kernel)) ggX7_requireLine_X7_requireKey
theorem dX7_requireLine_0 : decode cX7_requireLine 0 = .ok (.iload_n 0, 1) := by decide +kernel
theorem dX7_requireLine_1 : decode cX7_requireLine 1 = .ok (.invokestatic 46, 3) := by decide +kernel
theorem dX7_requireLine_4 : decode cX7_requireLine 4 = .ok (.iload_n 1, 1) := by decide +kernel
theorem dX7_requireLine_5 : decode cX7_requireLine 5 = .ok (.iconst 1, 1) := by decide +kernel
theorem dX7_requireLine_6 : decode cX7_requireLine 6 = .ok (.if_icmp .lt 10, 3) := by decide +kernel
theorem dX7_requireLine_9 : decode cX7_requireLine 9 = .ok (.iload_n 1, 1) := by decide +kernel
theorem dX7_requireLine_10 : decode cX7_requireLine 10 = .ok (.sipush 9999, 3) := by decide +kernel
theorem dX7_requireLine_13 : decode cX7_requireLine 13 = .ok (.if_icmp .le 13, 3) := by decide +kernel
theorem dX7_requireLine_16 : decode cX7_requireLine 16 = .ok (.new 94, 3) := by decide +kernel
theorem dX7_requireLine_19 : decode cX7_requireLine 19 = .ok (.dup, 1) := by decide +kernel
theorem dX7_requireLine_20 : decode cX7_requireLine 20 = .ok (.ldc 181, 2) := by decide +kernel
theorem dX7_requireLine_22 : decode cX7_requireLine 22 = .ok (.invokespecial 98, 3) := by decide +kernel
theorem dX7_requireLine_25 : decode cX7_requireLine 25 = .ok (.athrow, 1) := by decide +kernel
theorem dX7_requireLine_26 : decode cX7_requireLine 26 = .ok (.iload_n 2, 1) := by decide +kernel
theorem dX7_requireLine_27 : decode cX7_requireLine 27 = .ok (.iconst 1, 1) := by decide +kernel
theorem dX7_requireLine_28 : decode cX7_requireLine 28 = .ok (.if_icmp .lt 9, 3) := by decide +kernel
theorem dX7_requireLine_31 : decode cX7_requireLine 31 = .ok (.iload_n 2, 1) := by decide +kernel
theorem dX7_requireLine_32 : decode cX7_requireLine 32 = .ok (.bipush 40, 2) := by decide +kernel
theorem dX7_requireLine_34 : decode cX7_requireLine 34 = .ok (.if_icmp .le 13, 3) := by decide +kernel
theorem dX7_requireLine_37 : decode cX7_requireLine 37 = .ok (.new 94, 3) := by decide +kernel
theorem dX7_requireLine_40 : decode cX7_requireLine 40 = .ok (.dup, 1) := by decide +kernel
theorem dX7_requireLine_41 : decode cX7_requireLine 41 = .ok (.ldc 183, 2) := by decide +kernel
theorem dX7_requireLine_43 : decode cX7_requireLine 43 = .ok (.invokespecial 98, 3) := by decide +kernel
theorem dX7_requireLine_46 : decode cX7_requireLine 46 = .ok (.athrow, 1) := by decide +kernel
theorem dX7_requireLine_47 : decode cX7_requireLine 47 = .ok (.iload_n 0, 1) := by decide +kernel
theorem dX7_requireLine_48 : decode cX7_requireLine 48 = .ok (.iload_n 2, 1) := by decide +kernel
theorem dX7_requireLine_49 : decode cX7_requireLine 49 = .ok (.iconst 1, 1) := by decide +kernel
theorem dX7_requireLine_50 : decode cX7_requireLine 50 = .ok (.isub, 1) := by decide +kernel
theorem dX7_requireLine_51 : decode cX7_requireLine 51 = .ok (.iload_n 1, 1) := by decide +kernel
theorem dX7_requireLine_52 : decode cX7_requireLine 52 = .ok (.imul, 1) := by decide +kernel
theorem dX7_requireLine_53 : decode cX7_requireLine 53 = .ok (.iadd, 1) := by decide +kernel
theorem dX7_requireLine_54 : decode cX7_requireLine 54 = .ok (.invokestatic 46, 3) := by decide +kernel
theorem dX7_requireLine_57 : decode cX7_requireLine 57 = .ok (.return_, 1) := by decide +kernel
theorem dX7_requireBelow_0 : decode cX7_requireBelow 0 = .ok (.iload_n 0, 1) := by decide +kernel
theorem dX7_requireBelow_1 : decode cX7_requireBelow 1 = .ok (.ifCond .lt 8, 3) := by decide +kernel
theorem dX7_requireBelow_4 : decode cX7_requireBelow 4 = .ok (.iload_n 0, 1) := by decide +kernel
theorem dX7_requireBelow_5 : decode cX7_requireBelow 5 = .ok (.iload_n 1, 1) := by decide +kernel
theorem dX7_requireBelow_6 : decode cX7_requireBelow 6 = .ok (.if_icmp .lt 13, 3) := by decide +kernel
theorem dX7_requireBelow_9 : decode cX7_requireBelow 9 = .ok (.new 185, 3) := by decide +kernel
theorem dX7_requireBelow_12 : decode cX7_requireBelow 12 = .ok (.dup, 1) := by decide +kernel
theorem dX7_requireBelow_13 : decode cX7_requireBelow 13 = .ok (.ldc 187, 2) := by decide +kernel
theorem dX7_requireBelow_15 : decode cX7_requireBelow 15 = .ok (.invokespecial 189, 3) := by decide +kernel
theorem dX7_requireBelow_18 : decode cX7_requireBelow 18 = .ok (.athrow, 1) := by decide +kernel
theorem dX7_requireBelow_19 : decode cX7_requireBelow 19 = .ok (.return_, 1) := by decide +kernel
theorem dX7_requireRoomFor_0 : decode cX7_requireRoomFor 0 = .ok (.aload_n 0, 1) := by decide +kernel
theorem dX7_requireRoomFor_1 : decode cX7_requireRoomFor 1 = .ok (.getfield 10, 3) := by decide +kernel
theorem dX7_requireRoomFor_4 : decode cX7_requireRoomFor 4 = .ok (.getfield 69, 3) := by decide +kernel
theorem dX7_requireRoomFor_7 : decode cX7_requireRoomFor 7 = .ok (.iload_n 1, 1) := by decide +kernel
theorem dX7_requireRoomFor_8 : decode cX7_requireRoomFor 8 = .ok (.iadd, 1) := by decide +kernel
theorem dX7_requireRoomFor_9 : decode cX7_requireRoomFor 9 = .ok (.bipush 120, 2) := by decide +kernel
theorem dX7_requireRoomFor_11 : decode cX7_requireRoomFor 11 = .ok (.if_icmp .le 13, 3) := by decide +kernel
theorem dX7_requireRoomFor_14 : decode cX7_requireRoomFor 14 = .ok (.new 56, 3) := by decide +kernel
theorem dX7_requireRoomFor_17 : decode cX7_requireRoomFor 17 = .ok (.dup, 1) := by decide +kernel
theorem dX7_requireRoomFor_18 : decode cX7_requireRoomFor 18 = .ok (.ldc 190, 2) := by decide +kernel
theorem dX7_requireRoomFor_20 : decode cX7_requireRoomFor 20 = .ok (.invokespecial 60, 3) := by decide +kernel
theorem dX7_requireRoomFor_23 : decode cX7_requireRoomFor 23 = .ok (.athrow, 1) := by decide +kernel
theorem dX7_requireRoomFor_24 : decode cX7_requireRoomFor 24 = .ok (.return_, 1) := by decide +kernel
theorem dX7_requireOpen_0 : decode cX7_requireOpen 0 = .ok (.aload_n 0, 1) := by decide +kernel
theorem dX7_requireOpen_1 : decode cX7_requireOpen 1 = .ok (.getfield 125, 3) := by decide +kernel
theorem dX7_requireOpen_4 : decode cX7_requireOpen 4 = .ok (.ifCond .eq 13, 3) := by decide +kernel
theorem dX7_requireOpen_7 : decode cX7_requireOpen 7 = .ok (.new 56, 3) := by decide +kernel
theorem dX7_requireOpen_10 : decode cX7_requireOpen 10 = .ok (.dup, 1) := by decide +kernel
theorem dX7_requireOpen_11 : decode cX7_requireOpen 11 = .ok (.ldc 192, 2) := by decide +kernel
theorem dX7_requireOpen_13 : decode cX7_requireOpen 13 = .ok (.invokespecial 60, 3) := by decide +kernel
theorem dX7_requireOpen_16 : decode cX7_requireOpen 16 = .ok (.athrow, 1) := by decide +kernel
theorem dX7_requireOpen_17 : decode cX7_requireOpen 17 = .ok (.return_, 1) := by decide +kernel
theorem dX7_requireBuilt_0 : decode cX7_requireBuilt 0 = .ok (.aload_n 0, 1) := by decide +kernel
theorem dX7_requireBuilt_1 : decode cX7_requireBuilt 1 = .ok (.getfield 125, 3) := by decide +kernel
theorem dX7_requireBuilt_4 : decode cX7_requireBuilt 4 = .ok (.ifCond .ne 13, 3) := by decide +kernel
theorem dX7_requireBuilt_7 : decode cX7_requireBuilt 7 = .ok (.new 56, 3) := by decide +kernel
theorem dX7_requireBuilt_10 : decode cX7_requireBuilt 10 = .ok (.dup, 1) := by decide +kernel
theorem dX7_requireBuilt_11 : decode cX7_requireBuilt 11 = .ok (.ldc 194, 2) := by decide +kernel
theorem dX7_requireBuilt_13 : decode cX7_requireBuilt 13 = .ok (.invokespecial 60, 3) := by decide +kernel
theorem dX7_requireBuilt_16 : decode cX7_requireBuilt 16 = .ok (.athrow, 1) := by decide +kernel
theorem dX7_requireBuilt_17 : decode cX7_requireBuilt 17 = .ok (.return_, 1) := by decide +kernel
set_option maxRecDepth 20000 in
theorem ggX7_newInLine_X4_holds : GoodIn wsX7_newInLine wsX4_holds := goodIn_r _ [5, 6, 7, 8, 9, 10, 3, 11, 12, 13, 14, 15, 16, 24, 25, 26] (by decide +kernel) (by decide +kernel)
set_option maxRecDepth 20000 in
theorem gX7_newInLine_X4_holds_n52 : GoodIn wsX7_newInLine (wsX4_holds) := ggX7_newInLine_X4_holds
theorem dX7_newInLine_0 : decode cX7_newInLine 0 = .ok (.iconst 0, 1) := by decide +kernel
theorem dX7_newInLine_1 : decode cX7_newInLine 1 = .ok (.istore 4, 2) := by decide +kernel
theorem dX7_newInLine_3 : decode cX7_newInLine 3 = .ok (.iconst 0, 1) := by decide +kernel
theorem dX7_newInLine_4 : decode cX7_newInLine 4 = .ok (.istore 5, 2) := by decide +kernel
theorem dX7_newInLine_6 : decode cX7_newInLine 6 = .ok (.iload 5, 2) := by decide +kernel
theorem dX7_newInLine_8 : decode cX7_newInLine 8 = .ok (.iload_n 3, 1) := by decide +kernel
theorem dX7_newInLine_9 : decode cX7_newInLine 9 = .ok (.if_icmp .ge 28, 3) := by decide +kernel
theorem dX7_newInLine_12 : decode cX7_newInLine 12 = .ok (.aload_n 0, 1) := by decide +kernel
theorem dX7_newInLine_13 : decode cX7_newInLine 13 = .ok (.getfield 10, 3) := by decide +kernel
theorem dX7_newInLine_16 : decode cX7_newInLine 16 = .ok (.iload_n 1, 1) := by decide +kernel
theorem dX7_newInLine_17 : decode cX7_newInLine 17 = .ok (.iload 5, 2) := by decide +kernel
theorem dX7_newInLine_19 : decode cX7_newInLine 19 = .ok (.iload_n 2, 1) := by decide +kernel
theorem dX7_newInLine_20 : decode cX7_newInLine 20 = .ok (.imul, 1) := by decide +kernel
theorem dX7_newInLine_21 : decode cX7_newInLine 21 = .ok (.iadd, 1) := by decide +kernel
theorem dX7_newInLine_22 : decode cX7_newInLine 22 = .ok (.invokevirtual 52, 3) := by decide +kernel
theorem dX7_newInLine_25 : decode cX7_newInLine 25 = .ok (.ifCond .ne 6, 3) := by decide +kernel
theorem dX7_newInLine_28 : decode cX7_newInLine 28 = .ok (.iinc 4 1, 3) := by decide +kernel
theorem dX7_newInLine_31 : decode cX7_newInLine 31 = .ok (.iinc 5 1, 3) := by decide +kernel
theorem dX7_newInLine_34 : decode cX7_newInLine 34 = .ok (.goto (-28), 3) := by decide +kernel
theorem dX7_newInLine_37 : decode cX7_newInLine 37 = .ok (.iload 4, 2) := by decide +kernel
theorem dX7_newInLine_39 : decode cX7_newInLine 39 = .ok (.ireturn, 1) := by decide +kernel
set_option maxRecDepth 20000 in
theorem ggX7_keepFingerprints_X7_keyWithNumber : GoodIn wsX7_keepFingerprints wsX7_keyWithNumber := goodIn_r _ [8, 2, 9, 10, 11, 12, 13, 14, 15, 16, 17, 18, 19, 36, 37, 38, 39, 40, 41, 42, 45, 46, 47, 48, 49, 50, 51, 52, 53, 54, 43, 44] (by decide +kernel) (by decide +kernel)
set_option maxRecDepth 20000 in
theorem gX7_keepFingerprints_X7_keyWithNumber : GoodIn wsX7_keepFingerprints (wsV RX7 143 RX7 yX7_keyWithNumber wsX7_keyWithNumber) := goodIn_app (goodIn_of _ (by decide +kernel)) ggX7_keepFingerprints_X7_keyWithNumber
set_option maxRecDepth 20000 in
theorem ggX7_keepFingerprints_X7_fingerprintOf : GoodIn wsX7_keepFingerprints wsX7_fingerprintOf := goodIn_r _ [23, 24, 9, 1, 25, 26, 27, 28, 29, 30, 31, 32, 36, 37, 38, 39, 40, 41, 42, 45, 46, 47, 48, 49, 50, 51, 52, 53] (by decide +kernel) (by decide +kernel)
