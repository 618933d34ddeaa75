theorem dL_joined_71 : decode cL_joined 71 = .ok (.iconst 5, 1) := by decide +kernel
theorem dL_joined_72 : decode cL_joined 72 = .ok (.aload_n 1, 1) := by decide +kernel
theorem dL_joined_73 : decode cL_joined 73 = .ok (.iload 5, 2) := by decide +kernel
theorem dL_joined_75 : decode cL_joined 75 = .ok (.iaload, 1) := by decide +kernel
theorem dL_joined_76 : decode cL_joined 76 = .ok (.i2l, 1) := by decide +kernel
theorem dL_joined_77 : decode cL_joined 77 = .ok (.iload_n 3, 1) := by decide +kernel
theorem dL_joined_78 : decode cL_joined 78 = .ok (.i2l, 1) := by decide +kernel
theorem dL_joined_79 : decode cL_joined 79 = .ok (.invokestatic 46, 3) := by decide +kernel
theorem dL_joined_82 : decode cL_joined 82 = .ok (.iconst 3, 1) := by decide +kernel
theorem dL_joined_83 : decode cL_joined 83 = .ok (.iload_n 0, 1) := by decide +kernel
theorem dL_joined_84 : decode cL_joined 84 = .ok (.imul, 1) := by decide +kernel
theorem dL_joined_85 : decode cL_joined 85 = .ok (.i2l, 1) := by decide +kernel
theorem dL_joined_86 : decode cL_joined 86 = .ok (.lrem, 1) := by decide +kernel
theorem dL_joined_87 : decode cL_joined 87 = .ok (.l2i, 1) := by decide +kernel
theorem dL_joined_88 : decode cL_joined 88 = .ok (.iaload, 1) := by decide +kernel
theorem dL_joined_89 : decode cL_joined 89 = .ok (.istore 7, 2) := by decide +kernel
theorem dL_joined_91 : decode cL_joined 91 = .ok (.iload 6, 2) := by decide +kernel
theorem dL_joined_93 : decode cL_joined 93 = .ok (.iload 7, 2) := by decide +kernel
theorem dL_joined_95 : decode cL_joined 95 = .ok (.if_icmp .eq 7, 3) := by decide +kernel
theorem dL_joined_98 : decode cL_joined 98 = .ok (.iconst 1, 1) := by decide +kernel
theorem dL_joined_99 : decode cL_joined 99 = .ok (.goto 4, 3) := by decide +kernel
theorem dL_joined_102 : decode cL_joined 102 = .ok (.iconst 0, 1) := by decide +kernel
theorem dL_joined_103 : decode cL_joined 103 = .ok (.istore 4, 2) := by decide +kernel
theorem dL_joined_105 : decode cL_joined 105 = .ok (.iconst 0, 1) := by decide +kernel
theorem dL_joined_106 : decode cL_joined 106 = .ok (.istore 8, 2) := by decide +kernel
theorem dL_joined_108 : decode cL_joined 108 = .ok (.iload 8, 2) := by decide +kernel
theorem dL_joined_110 : decode cL_joined 110 = .ok (.iconst 3, 1) := by decide +kernel
theorem dL_joined_111 : decode cL_joined 111 = .ok (.iload_n 0, 1) := by decide +kernel
theorem dL_joined_112 : decode cL_joined 112 = .ok (.imul, 1) := by decide +kernel
theorem dL_joined_113 : decode cL_joined 113 = .ok (.if_icmp .ge 31, 3) := by decide +kernel
theorem dL_joined_116 : decode cL_joined 116 = .ok (.aload_n 2, 1) := by decide +kernel
theorem dL_joined_117 : decode cL_joined 117 = .ok (.iload 8, 2) := by decide +kernel
theorem dL_joined_119 : decode cL_joined 119 = .ok (.aload_n 2, 1) := by decide +kernel
theorem dL_joined_120 : decode cL_joined 120 = .ok (.iload 8, 2) := by decide +kernel
theorem dL_joined_122 : decode cL_joined 122 = .ok (.iaload, 1) := by decide +kernel
theorem dL_joined_123 : decode cL_joined 123 = .ok (.iload 7, 2) := by decide +kernel
theorem dL_joined_125 : decode cL_joined 125 = .ok (.if_icmp .ne 8, 3) := by decide +kernel
theorem dL_joined_128 : decode cL_joined 128 = .ok (.iload 6, 2) := by decide +kernel
theorem dL_joined_130 : decode cL_joined 130 = .ok (.goto 7, 3) := by decide +kernel
theorem dL_joined_133 : decode cL_joined 133 = .ok (.aload_n 2, 1) := by decide +kernel
theorem dL_joined_134 : decode cL_joined 134 = .ok (.iload 8, 2) := by decide +kernel
theorem dL_joined_136 : decode cL_joined 136 = .ok (.iaload, 1) := by decide +kernel
theorem dL_joined_137 : decode cL_joined 137 = .ok (.iastore, 1) := by decide +kernel
theorem dL_joined_138 : decode cL_joined 138 = .ok (.iinc 8 1, 3) := by decide +kernel
theorem dL_joined_141 : decode cL_joined 141 = .ok (.goto (-33), 3) := by decide +kernel
theorem dL_joined_144 : decode cL_joined 144 = .ok (.iinc 5 1, 3) := by decide +kernel
theorem dL_joined_147 : decode cL_joined 147 = .ok (.goto (-109), 3) := by decide +kernel
theorem dL_joined_150 : decode cL_joined 150 = .ok (.iload 4, 2) := by decide +kernel
theorem dL_joined_152 : decode cL_joined 152 = .ok (.ifCond .eq 5, 3) := by decide +kernel
theorem dL_joined_155 : decode cL_joined 155 = .ok (.iconst 1, 1) := by decide +kernel
theorem dL_joined_156 : decode cL_joined 156 = .ok (.ireturn, 1) := by decide +kernel
theorem dL_joined_157 : decode cL_joined 157 = .ok (.iinc 3 1, 3) := by decide +kernel
theorem dL_joined_160 : decode cL_joined 160 = .ok (.goto (-158), 3) := by decide +kernel
theorem dL_joined_163 : decode cL_joined 163 = .ok (.iconst 0, 1) := by decide +kernel
theorem dL_joined_164 : decode cL_joined 164 = .ok (.ireturn, 1) := by decide +kernel
set_option maxRecDepth 20000 in
theorem ggL_unpacked_X7_width : GoodIn wsL_unpacked wsX7_width := goodIn_ca (goodIn_r _ [5, 6, 7, 8, 9, 4, 10, 11, 12, 13, 28, 29, 30, 31, 32, 33, 34, 35, 36, 37] (by decide +kernel) (by decide +kernel)) (goodIn_sub (fun _ h => List.mem_cons_of_mem _ (List.mem_append_left _ (List.mem_append_right _ h))) (by decide +kernel))
set_option maxRecDepth 20000 in
theorem gL_unpacked_X7_width : GoodIn wsL_unpacked (wsV RL 58 RX7 yX7_width wsX7_width) := goodIn_app (goodIn_of _ (by decide +kernel)) ggL_unpacked_X7_width
set_option maxRecDepth 20000 in
theorem ggL_unpacked_X7_word : GoodIn wsL_unpacked wsX7_word := goodIn_ca (goodIn_ca (goodIn_r _ [17, 6, 7, 8, 9, 4, 10, 11, 12, 13, 18, 19, 20, 21, 22, 23, 24, 25, 26, 27, 28, 29, 30, 31, 32, 33, 34, 35, 36, 37] (by decide +kernel) (by decide +kernel)) (goodIn_sub (fun _ h => List.mem_cons_of_mem _ (List.mem_append_left _ (List.mem_append_right _ h))) (by decide +kernel))) (goodIn_sub (fun _ h => List.mem_cons_of_mem _ (List.mem_append_right _ h)) (by decide +kernel))
set_option maxRecDepth 20000 in
theorem gL_unpacked_X7_word : GoodIn wsL_unpacked (wsV RL 64 RX7 yX7_word wsX7_word) := goodIn_app (goodIn_of _ (by decide +kernel)) ggL_unpacked_X7_word
theorem dL_unpacked_0 : decode cL_unpacked 0 = .ok (.aload_n 0, 1) := by decide +kernel
theorem dL_unpacked_1 : decode cL_unpacked 1 = .ok (.invokevirtual 58, 3) := by decide +kernel
theorem dL_unpacked_4 : decode cL_unpacked 4 = .ok (.istore_n 2, 1) := by decide +kernel
theorem dL_unpacked_5 : decode cL_unpacked 5 = .ok (.iconst 0, 1) := by decide +kernel
theorem dL_unpacked_6 : decode cL_unpacked 6 = .ok (.istore_n 3, 1) := by decide +kernel
theorem dL_unpacked_7 : decode cL_unpacked 7 = .ok (.iconst 0, 1) := by decide +kernel
theorem dL_unpacked_8 : decode cL_unpacked 8 = .ok (.istore 4, 2) := by decide +kernel
theorem dL_unpacked_10 : decode cL_unpacked 10 = .ok (.iload 4, 2) := by decide +kernel
theorem dL_unpacked_12 : decode cL_unpacked 12 = .ok (.iload_n 2, 1) := by decide +kernel
theorem dL_unpacked_13 : decode cL_unpacked 13 = .ok (.if_icmp .ge 41, 3) := by decide +kernel
theorem dL_unpacked_16 : decode cL_unpacked 16 = .ok (.iload_n 1, 1) := by decide +kernel
theorem dL_unpacked_17 : decode cL_unpacked 17 = .ok (.iload_n 2, 1) := by decide +kernel
theorem dL_unpacked_18 : decode cL_unpacked 18 = .ok (.imul, 1) := by decide +kernel
theorem dL_unpacked_19 : decode cL_unpacked 19 = .ok (.iload 4, 2) := by decide +kernel
theorem dL_unpacked_21 : decode cL_unpacked 21 = .ok (.iadd, 1) := by decide +kernel
theorem dL_unpacked_22 : decode cL_unpacked 22 = .ok (.istore 5, 2) := by decide +kernel
theorem dL_unpacked_24 : decode cL_unpacked 24 = .ok (.iload_n 3, 1) := by decide +kernel
theorem dL_unpacked_25 : decode cL_unpacked 25 = .ok (.aload_n 0, 1) := by decide +kernel
theorem dL_unpacked_26 : decode cL_unpacked 26 = .ok (.iload 5, 2) := by decide +kernel
theorem dL_unpacked_28 : decode cL_unpacked 28 = .ok (.bipush 64, 2) := by decide +kernel
theorem dL_unpacked_30 : decode cL_unpacked 30 = .ok (.idiv, 1) := by decide +kernel
theorem dL_unpacked_31 : decode cL_unpacked 31 = .ok (.invokevirtual 64, 3) := by decide +kernel
theorem dL_unpacked_34 : decode cL_unpacked 34 = .ok (.iload 5, 2) := by decide +kernel
theorem dL_unpacked_36 : decode cL_unpacked 36 = .ok (.bipush 64, 2) := by decide +kernel
theorem dL_unpacked_38 : decode cL_unpacked 38 = .ok (.irem, 1) := by decide +kernel
theorem dL_unpacked_39 : decode cL_unpacked 39 = .ok (.lshr, 1) := by decide +kernel
theorem dL_unpacked_40 : decode cL_unpacked 40 = .ok (.lconst 1, 1) := by decide +kernel
theorem dL_unpacked_41 : decode cL_unpacked 41 = .ok (.land, 1) := by decide +kernel
theorem dL_unpacked_42 : decode cL_unpacked 42 = .ok (.l2i, 1) := by decide +kernel
theorem dL_unpacked_43 : decode cL_unpacked 43 = .ok (.iload 4, 2) := by decide +kernel
theorem dL_unpacked_45 : decode cL_unpacked 45 = .ok (.ishl, 1) := by decide +kernel
theorem dL_unpacked_46 : decode cL_unpacked 46 = .ok (.ior, 1) := by decide +kernel
theorem dL_unpacked_47 : decode cL_unpacked 47 = .ok (.istore_n 3, 1) := by decide +kernel
theorem dL_unpacked_48 : decode cL_unpacked 48 = .ok (.iinc 4 1, 3) := by decide +kernel
theorem dL_unpacked_51 : decode cL_unpacked 51 = .ok (.goto (-41), 3) := by decide +kernel
theorem dL_unpacked_54 : decode cL_unpacked 54 = .ok (.iload_n 3, 1) := by decide +kernel
theorem dL_unpacked_55 : decode cL_unpacked 55 = .ok (.ireturn, 1) := by decide +kernel
set_option maxRecDepth 20000 in
theorem ggL_minimal_X7_build : GoodIn wsL_minimal wsX7_build := goodIn_ca (goodIn_ca (goodIn_r _ [5, 6, 7, 8, 9, 10, 11, 12, 13, 14, 15, 16, 17, 4, 18, 19, 20, 21, 22, 23, 24, 25, 26, 27, 28, 29, 30, 31, 32, 33, 34, 35, 36, 37, 38, 39, 40, 41, 42, 43, 44, 45, 46, 47, 48, 49, 50, 51, 52, 53, 54, 55, 56, 57, 58, 59, 60, 61, 62, 63, 64, 65, 66, 67, 68, 69, 70, 71, 72, 73, 74, 75, 76, 77, 78, 79, 80, 81, 82, 83, 84, 85, 86, 87, 88, 89, 90, 91, 92, 93, 94, 95, 96, 97, 98, 99, 100, 101, 102, 103, 104, 105, 106, 107, 108, 109, 110, 111, 112, 113, 114, 115, 116, 117, 118, 119, 120, 121, 122, 123, 124, 125, 126, 127, 128, 129, 130, 131, 132, 133, 134, 135, 136, 137, 138, 139, 140, 141, 142, 143, 144, 145, 146, 147, 148, 149, 150, 151, 152, 153, 154, 155, 156, 157, 158, 159, 160, 161, 162, 163, 164, 165, 166, 167, 168, 169, 170, 171, 172, 173, 174, 175, 176, 177, 178, 179, 180, 181, 182, 183, 184, 185, 186, 187, 188, 189, 190, 191, 192, 193, 194, 195, 196, 197, 198, 199, 200, 201, 202, 203, 204, 205, 206, 207, 208, 209, 210, 211, 212, 213, 214, 215, 216, 217, 218, 219, 302, 303, 304, 305, 306, 307, 308, 309, 310, 311, 312, 313, 314, 315, 316, 317, 318, 319, 320, 321, 322, 323, 324, 325, 326, 327, 328, 329, 330, 331, 332, 333, 334, 335, 336] (by decide +kernel) (by decide +kernel)) (goodIn_sub (fun _ h => List.mem_cons_of_mem _ (List.mem_append_left _ (List.mem_append_left _ (List.mem_append_right _ h)))) (by decide +kernel))) (goodIn_sub (fun _ h => List.mem_cons_of_mem _ (List.mem_append_left _ (List.mem_append_right _ h))) (by decide +kernel))
set_option maxRecDepth 20000 in
theorem gL_minimal_X7_build : GoodIn wsL_minimal (wsV RL 68 RX7 yX7_build wsX7_build) := goodIn_app (goodIn_of _ (by decide +kernel)) ggL_minimal_X7_build
set_option maxRecDepth 20000 in
theorem ggL_minimal_X7_seed : GoodIn wsL_minimal wsX7_seed := goodIn_ca (goodIn_r _ [223, 11, 224, 225, 226, 4, 227, 8, 9, 14, 302, 303, 304, 305, 306, 307, 308, 311, 312, 313, 314, 315, 316, 317, 318, 319] (by decide +kernel) (by decide +kernel)) (goodIn_sub (fun _ h => List.mem_cons_of_mem _ (List.mem_append_left _ (List.mem_append_right _ h))) (by decide +kernel))
set_option maxRecDepth 20000 in
theorem gL_minimal_X7_seed : GoodIn wsL_minimal (wsV RL 72 RX7 yX7_seed wsX7_seed) := goodIn_app (goodIn_of _ (by decide +kernel)) ggL_minimal_X7_seed
set_option maxRecDepth 20000 in
theorem ggL_minimal_X7_number : GoodIn wsL_minimal wsX7_number := goodIn_ca (goodIn_ca (goodIn_r _ [231, 11, 232, 233, 4, 234, 6, 7, 235, 224, 225, 226, 227, 8, 9, 14, 236, 20, 237, 238, 95, 34, 25, 23, 60, 61, 62, 63, 64, 24, 65, 66, 67, 68, 69, 70, 71, 72, 73, 74, 57, 44, 58, 59, 47, 82, 83, 84, 85, 86, 302, 303, 304, 305, 306, 307, 308, 311, 312, 313, 314, 315, 316, 317, 318, 319, 325] (by decide +kernel) (by decide +kernel)) (goodIn_sub (fun _ h => List.mem_cons_of_mem _ (List.mem_append_left _ (List.mem_append_left _ (List.mem_append_right _ h)))) (by decide +kernel))) (goodIn_sub (fun _ h => List.mem_cons_of_mem _ (List.mem_append_left _ (List.mem_append_right _ h))) (by decide +kernel))
set_option maxRecDepth 20000 in
theorem gL_minimal_X7_number : GoodIn wsL_minimal (wsV RL 75 RX7 yX7_number wsX7_number) := goodIn_app (goodIn_of _ (by decide +kernel)) ggL_minimal_X7_number
set_option maxRecDepth 20000 in
theorem ggL_minimal_X7_find : GoodIn wsL_minimal wsX7_find := goodIn_ca (goodIn_ca (goodIn_r _ [242, 232, 233, 4, 234, 6, 7, 235, 224, 225, 226, 227, 8, 9, 14, 243, 244, 245, 246, 11, 185, 236, 20, 237, 238, 95, 34, 25, 23, 60, 61, 62, 63, 64, 24, 65, 66, 67, 68, 69, 70, 71, 72, 73, 74, 57, 44, 58, 59, 47, 82, 83, 84, 85, 86, 190, 191, 192, 193, 194, 184, 302, 303, 304, 305, 306, 307, 308, 311, 312, 313, 314, 315, 316, 317, 318, 319, 325] (by decide +kernel) (by decide +kernel)) (goodIn_sub (fun _ h => List.mem_cons_of_mem _ (List.mem_append_left _ (List.mem_append_left _ (List.mem_append_right _ h)))) (by decide +kernel))) (goodIn_sub (fun _ h => List.mem_cons_of_mem _ (List.mem_append_left _ (List.mem_append_right _ h))) (by decide +kernel))
set_option maxRecDepth 20000 in
theorem gL_minimal_X7_find : GoodIn wsL_minimal (wsV RL 79 RX7 yX7_find wsX7_find) := goodIn_app (goodIn_of _ (by decide +kernel)) ggL_minimal_X7_find
set_option maxRecDepth 20000 in
theorem ggL_minimal_X7_keyOf : GoodIn wsL_minimal wsX7_keyOf := goodIn_ca (goodIn_ca (goodIn_r _ [250, 10, 224, 225, 226, 4, 227, 8, 9, 14, 251, 252, 253, 254, 255, 186, 187, 188, 189, 11, 57, 44, 58, 59, 47, 52, 53, 54, 55, 56, 302, 303, 304, 305, 306, 307, 308, 309, 310, 311, 312, 313, 314, 315, 316, 317, 318, 319, 325] (by decide +kernel) (by decide +kernel)) (goodIn_sub (fun _ h => List.mem_cons_of_mem _ (List.mem_append_left _ (List.mem_append_right _ h))) (by decide +kernel))) (goodIn_sub (fun _ h => List.mem_cons_of_mem _ (List.mem_append_right _ h)) (by decide +kernel))
set_option maxRecDepth 20000 in
theorem gL_minimal_X7_keyOf : GoodIn wsL_minimal (wsV RL 82 RX7 yX7_keyOf wsX7_keyOf) := goodIn_app (goodIn_of _ (by decide +kernel)) ggL_minimal_X7_keyOf
set_option maxRecDepth 20000 in
theorem ggL_minimal_X7_byGraph : GoodIn wsL_minimal wsX7_byGraph := goodIn_ca (goodIn_ca (goodIn_r _ [259, 12, 232, 233, 4, 234, 6, 7, 235, 224, 225, 226, 227, 8, 9, 14, 260, 140, 261, 262, 161, 151, 152, 143, 153, 154, 155, 156, 145, 144, 65, 66, 67, 68, 69, 70, 71, 72, 73, 74, 57, 44, 58, 59, 47, 302, 303, 304, 305, 306, 307, 308, 326, 327, 328, 329, 330, 331, 332, 333, 325] (by decide +kernel) (by decide +kernel)) (goodIn_sub (fun _ h => List.mem_cons_of_mem _ (List.mem_append_left _ (List.mem_append_left _ (List.mem_append_right _ h)))) (by decide +kernel))) (goodIn_sub (fun _ h => List.mem_cons_of_mem _ (List.mem_append_left _ (List.mem_append_right _ h))) (by decide +kernel))
set_option maxRecDepth 20000 in
theorem gL_minimal_X7_byGraph : GoodIn wsL_minimal (wsV RL 85 RX7 yX7_byGraph wsX7_byGraph) := goodIn_app (goodIn_of _ (by decide +kernel)) ggL_minimal_X7_byGraph
set_option maxRecDepth 20000 in
theorem ggL_minimal_X7_keyAt : GoodIn wsL_minimal wsX7_keyAt := goodIn_ca (goodIn_r _ [266, 10, 251, 252, 4, 253, 254, 255, 52, 53, 54, 55, 56, 57, 44, 58, 59, 47, 302, 303, 304, 305, 306, 307, 308, 309, 310, 325] (by decide +kernel) (by decide +kernel)) (goodIn_sub (fun _ h => List.mem_cons_of_mem _ (List.mem_append_right _ h)) (by decide +kernel))
set_option maxRecDepth 20000 in
theorem gL_minimal_X7_keyAt : GoodIn wsL_minimal (wsV RL 88 RX7 yX7_keyAt wsX7_keyAt) := goodIn_app (goodIn_of _ (by decide +kernel)) ggL_minimal_X7_keyAt
set_option maxRecDepth 20000 in
theorem ggL_minimal_X7_buckets : GoodIn wsL_minimal wsX7_buckets := goodIn_ca (goodIn_r _ [270, 11, 224, 225, 226, 4, 227, 8, 9, 14, 302, 303, 304, 305, 306, 307, 308, 311, 312, 313, 314, 315, 316, 317, 318, 319] (by decide +kernel) (by decide +kernel)) (goodIn_sub (fun _ h => List.mem_cons_of_mem _ (List.mem_append_left _ (List.mem_append_right _ h))) (by decide +kernel))
set_option maxRecDepth 20000 in
theorem gL_minimal_X7_buckets : GoodIn wsL_minimal (wsV RL 91 RX7 yX7_buckets wsX7_buckets) := goodIn_app (goodIn_of _ (by decide +kernel)) ggL_minimal_X7_buckets
set_option maxRecDepth 20000 in
theorem ggL_minimal_L_unpacked : GoodIn wsL_minimal wsL_unpacked := goodIn_ca (goodIn_ca (goodIn_r _ [274, 275, 276, 277, 4, 278, 13, 224, 225, 226, 227, 8, 9, 14, 279, 280, 281, 282, 251, 252, 253, 254, 255, 283, 196, 284, 285, 199, 302, 303, 304, 305, 306, 307, 308, 334, 335, 336] (by decide +kernel) (by decide +kernel)) (goodIn_sub (fun _ h => List.mem_cons_of_mem _ (List.mem_append_left _ (List.mem_append_right _ h))) (by decide +kernel))) (goodIn_sub (fun _ h => List.mem_cons_of_mem _ (List.mem_append_right _ h)) (by decide +kernel))
set_option maxRecDepth 20000 in
theorem gL_minimal_L_unpacked : GoodIn wsL_minimal (va_wsS RL 94 yL_unpacked wsL_unpacked) := goodIn_app (goodIn_of _ (by decide +kernel)) ggL_minimal_L_unpacked
set_option maxRecDepth 20000 in
theorem ggL_minimal_X7_displacement : GoodIn wsL_minimal wsX7_displacement := goodIn_ca (goodIn_ca (goodIn_r _ [289, 11, 224, 225, 226, 4, 227, 8, 9, 14, 251, 252, 253, 254, 255, 57, 44, 58, 59, 47, 302, 303, 304, 305, 306, 307, 308, 311, 312, 313, 314, 315, 316, 317, 318, 319, 325] (by decide +kernel) (by decide +kernel)) (goodIn_sub (fun _ h => List.mem_cons_of_mem _ (List.mem_append_left _ (List.mem_append_right _ h))) (by decide +kernel))) (goodIn_sub (fun _ h => List.mem_cons_of_mem _ (List.mem_append_right _ h)) (by decide +kernel))
set_option maxRecDepth 20000 in
theorem gL_minimal_X7_displacement : GoodIn wsL_minimal (wsV RL 98 RX7 yX7_displacement wsX7_displacement) := goodIn_app (goodIn_of _ (by decide +kernel)) ggL_minimal_X7_displacement
set_option maxRecDepth 20000 in
theorem ggL_minimal_X7_inBucket : GoodIn wsL_minimal wsX7_inBucket := goodIn_ca (goodIn_ca (goodIn_r _ [293, 11, 224, 225, 226, 4, 227, 8, 9, 14, 251, 252, 253, 254, 255, 105, 37, 106, 107, 108, 109, 110, 111, 42, 57, 44, 58, 59, 47, 112, 113, 114, 115, 302, 303, 304, 305, 306, 307, 308, 311, 312, 313, 314, 315, 316, 317, 318, 319, 320, 321, 322, 323, 324, 325] (by decide +kernel) (by decide +kernel)) (goodIn_sub (fun _ h => List.mem_cons_of_mem _ (List.mem_append_left _ (List.mem_append_right _ h))) (by decide +kernel))) (goodIn_sub (fun _ h => List.mem_cons_of_mem _ (List.mem_append_right _ h)) (by decide +kernel))
set_option maxRecDepth 20000 in
theorem gL_minimal_X7_inBucket : GoodIn wsL_minimal (wsV RL 101 RX7 yX7_inBucket wsX7_inBucket) := goodIn_app (goodIn_of _ (by decide +kernel)) ggL_minimal_X7_inBucket
set_option maxRecDepth 20000 in
theorem ggL_minimal_X7_width : GoodIn wsL_minimal wsX7_width := goodIn_ca (goodIn_r _ [278, 13, 224, 225, 226, 4, 227, 8, 9, 14, 302, 303, 304, 305, 306, 307, 308, 334, 335, 336] (by decide +kernel) (by decide +kernel)) (goodIn_sub (fun _ h => List.mem_cons_of_mem _ (List.mem_append_left _ (List.mem_append_right _ h))) (by decide +kernel))
set_option maxRecDepth 20000 in
theorem gL_minimal_X7_width : GoodIn wsL_minimal (wsV RL 58 RX7 yX7_width wsX7_width) := goodIn_app (goodIn_of _ (by decide +kernel)) ggL_minimal_X7_width
set_option maxRecDepth 20000 in
theorem ggL_minimal_X7_reopen : GoodIn wsL_minimal wsX7_reopen := goodIn_ca (goodIn_r _ [297, 14, 224, 225, 226, 4, 227, 8, 9, 302, 303, 304, 305, 306, 307, 308] (by decide +kernel) (by decide +kernel)) (goodIn_sub (fun _ h => List.mem_cons_of_mem _ (List.mem_append_left _ (List.mem_append_right _ h))) (by decide +kernel))
set_option maxRecDepth 20000 in
theorem gL_minimal_X7_reopen : GoodIn wsL_minimal (wsV RL 104 RX7 yX7_reopen wsX7_reopen) := goodIn_app (goodIn_of _ (by decide +kernel)) ggL_minimal_X7_reopen
set_option maxRecDepth 20000 in
theorem ggL_minimal_X7_keys : GoodIn wsL_minimal wsX7_keys := goodIn_r _ [301, 10, 302, 303, 304, 305, 306, 307, 308, 309, 310] (by decide +kernel) (by decide +kernel)
set_option maxRecDepth 20000 in
theorem gL_minimal_X7_keys : GoodIn wsL_minimal (wsV RL 107 RX7 yX7_keys wsX7_keys) := goodIn_app (goodIn_of _ (by decide +kernel)) ggL_minimal_X7_keys
theorem dL_minimal_0 : decode cL_minimal 0 = .ok (.aload_n 0, 1) := by decide +kernel
theorem dL_minimal_1 : decode cL_minimal 1 = .ok (.iload_n 2, 1) := by decide +kernel
theorem dL_minimal_2 : decode cL_minimal 2 = .ok (.iload_n 3, 1) := by decide +kernel
theorem dL_minimal_3 : decode cL_minimal 3 = .ok (.invokevirtual 68, 3) := by decide +kernel
theorem dL_minimal_6 : decode cL_minimal 6 = .ok (.aload_n 0, 1) := by decide +kernel
theorem dL_minimal_7 : decode cL_minimal 7 = .ok (.invokevirtual 72, 3) := by decide +kernel
theorem dL_minimal_10 : decode cL_minimal 10 = .ok (.if_icmp .eq 5, 3) := by decide +kernel
theorem dL_minimal_13 : decode cL_minimal 13 = .ok (.iconst 0, 1) := by decide +kernel
theorem dL_minimal_14 : decode cL_minimal 14 = .ok (.ireturn, 1) := by decide +kernel
theorem dL_minimal_15 : decode cL_minimal 15 = .ok (.lconst 0, 1) := by decide +kernel
theorem dL_minimal_16 : decode cL_minimal 16 = .ok (.lstore 5, 2) := by decide +kernel
theorem dL_minimal_18 : decode cL_minimal 18 = .ok (.lconst 0, 1) := by decide +kernel
theorem dL_minimal_19 : decode cL_minimal 19 = .ok (.lstore 7, 2) := by decide +kernel
theorem dL_minimal_21 : decode cL_minimal 21 = .ok (.iconst 0, 1) := by decide +kernel
theorem dL_minimal_22 : decode cL_minimal 22 = .ok (.istore 9, 2) := by decide +kernel
theorem dL_minimal_24 : decode cL_minimal 24 = .ok (.iload 9, 2) := by decide +kernel
theorem dL_minimal_26 : decode cL_minimal 26 = .ok (.iload_n 1, 1) := by decide +kernel
theorem dL_minimal_27 : decode cL_minimal 27 = .ok (.if_icmp .ge 109, 3) := by decide +kernel
theorem dL_minimal_30 : decode cL_minimal 30 = .ok (.aload_n 0, 1) := by decide +kernel
theorem dL_minimal_31 : decode cL_minimal 31 = .ok (.aload 4, 2) := by decide +kernel
theorem dL_minimal_33 : decode cL_minimal 33 = .ok (.iload 9, 2) := by decide +kernel
theorem dL_minimal_35 : decode cL_minimal 35 = .ok (.iaload, 1) := by decide +kernel
theorem dL_minimal_36 : decode cL_minimal 36 = .ok (.invokevirtual 75, 3) := by decide +kernel
theorem dL_minimal_39 : decode cL_minimal 39 = .ok (.istore 10, 2) := by decide +kernel
theorem dL_minimal_41 : decode cL_minimal 41 = .ok (.iload 10, 2) := by decide +kernel
theorem dL_minimal_43 : decode cL_minimal 43 = .ok (.ifCond .lt 37, 3) := by decide +kernel
theorem dL_minimal_46 : decode cL_minimal 46 = .ok (.iload 10, 2) := by decide +kernel
theorem dL_minimal_48 : decode cL_minimal 48 = .ok (.iload_n 1, 1) := by decide +kernel
theorem dL_minimal_49 : decode cL_minimal 49 = .ok (.if_icmp .ge 31, 3) := by decide +kernel
theorem dL_minimal_52 : decode cL_minimal 52 = .ok (.aload_n 0, 1) := by decide +kernel
theorem dL_minimal_53 : decode cL_minimal 53 = .ok (.aload 4, 2) := by decide +kernel
theorem dL_minimal_55 : decode cL_minimal 55 = .ok (.iload 9, 2) := by decide +kernel
theorem dL_minimal_57 : decode cL_minimal 57 = .ok (.iaload, 1) := by decide +kernel
theorem dL_minimal_58 : decode cL_minimal 58 = .ok (.invokevirtual 79, 3) := by decide +kernel
theorem dL_minimal_61 : decode cL_minimal 61 = .ok (.iload 10, 2) := by decide +kernel
theorem dL_minimal_63 : decode cL_minimal 63 = .ok (.if_icmp .ne 17, 3) := by decide +kernel
theorem dL_minimal_66 : decode cL_minimal 66 = .ok (.aload_n 0, 1) := by decide +kernel
theorem dL_minimal_67 : decode cL_minimal 67 = .ok (.iload 10, 2) := by decide +kernel
theorem dL_minimal_69 : decode cL_minimal 69 = .ok (.invokevirtual 82, 3) := by decide +kernel
theorem dL_minimal_72 : decode cL_minimal 72 = .ok (.aload 4, 2) := by decide +kernel
theorem dL_minimal_74 : decode cL_minimal 74 = .ok (.iload 9, 2) := by decide +kernel
theorem dL_minimal_76 : decode cL_minimal 76 = .ok (.iaload, 1) := by decide +kernel
theorem dL_minimal_77 : decode cL_minimal 77 = .ok (.if_icmp .eq 5, 3) := by decide +kernel
theorem dL_minimal_80 : decode cL_minimal 80 = .ok (.iconst 0, 1) := by decide +kernel
theorem dL_minimal_81 : decode cL_minimal 81 = .ok (.ireturn, 1) := by decide +kernel
theorem dL_minimal_82 : decode cL_minimal 82 = .ok (.lload 5, 2) := by decide +kernel
theorem dL_minimal_84 : decode cL_minimal 84 = .ok (.lconst 1, 1) := by decide +kernel
theorem dL_minimal_85 : decode cL_minimal 85 = .ok (.iload 10, 2) := by decide +kernel
theorem dL_minimal_87 : decode cL_minimal 87 = .ok (.lshl, 1) := by decide +kernel
theorem dL_minimal_88 : decode cL_minimal 88 = .ok (.lor, 1) := by decide +kernel
theorem dL_minimal_89 : decode cL_minimal 89 = .ok (.lstore 5, 2) := by decide +kernel
theorem dL_minimal_91 : decode cL_minimal 91 = .ok (.lload 7, 2) := by decide +kernel
theorem dL_minimal_93 : decode cL_minimal 93 = .ok (.lconst 1, 1) := by decide +kernel
theorem dL_minimal_94 : decode cL_minimal 94 = .ok (.aload_n 0, 1) := by decide +kernel
theorem dL_minimal_95 : decode cL_minimal 95 = .ok (.aload 4, 2) := by decide +kernel
theorem dL_minimal_97 : decode cL_minimal 97 = .ok (.iload 9, 2) := by decide +kernel
theorem dL_minimal_99 : decode cL_minimal 99 = .ok (.iaload, 1) := by decide +kernel
theorem dL_minimal_100 : decode cL_minimal 100 = .ok (.invokevirtual 85, 3) := by decide +kernel
theorem dL_minimal_103 : decode cL_minimal 103 = .ok (.lshl, 1) := by decide +kernel
theorem dL_minimal_104 : decode cL_minimal 104 = .ok (.lor, 1) := by decide +kernel
theorem dL_minimal_105 : decode cL_minimal 105 = .ok (.lstore 7, 2) := by decide +kernel
theorem dL_minimal_107 : decode cL_minimal 107 = .ok (.aload_n 0, 1) := by decide +kernel
theorem dL_minimal_108 : decode cL_minimal 108 = .ok (.aload_n 0, 1) := by decide +kernel
theorem dL_minimal_109 : decode cL_minimal 109 = .ok (.aload 4, 2) := by decide +kernel
theorem dL_minimal_111 : decode cL_minimal 111 = .ok (.iload 9, 2) := by decide +kernel
theorem dL_minimal_113 : decode cL_minimal 113 = .ok (.iaload, 1) := by decide +kernel
theorem dL_minimal_114 : decode cL_minimal 114 = .ok (.invokevirtual 85, 3) := by decide +kernel
theorem dL_minimal_117 : decode cL_minimal 117 = .ok (.invokevirtual 88, 3) := by decide +kernel
theorem dL_minimal_120 : decode cL_minimal 120 = .ok (.aload 4, 2) := by decide +kernel
theorem dL_minimal_122 : decode cL_minimal 122 = .ok (.iload 9, 2) := by decide +kernel
theorem dL_minimal_124 : decode cL_minimal 124 = .ok (.iaload, 1) := by decide +kernel
theorem dL_minimal_125 : decode cL_minimal 125 = .ok (.if_icmp .eq 5, 3) := by decide +kernel
theorem dL_minimal_128 : decode cL_minimal 128 = .ok (.iconst 0, 1) := by decide +kernel
theorem dL_minimal_129 : decode cL_minimal 129 = .ok (.ireturn, 1) := by decide +kernel
theorem dL_minimal_130 : decode cL_minimal 130 = .ok (.iinc 9 1, 3) := by decide +kernel
theorem dL_minimal_133 : decode cL_minimal 133 = .ok (.goto (-109), 3) := by decide +kernel
theorem dL_minimal_136 : decode cL_minimal 136 = .ok (.iconst 0, 1) := by decide +kernel
theorem dL_minimal_137 : decode cL_minimal 137 = .ok (.istore 9, 2) := by decide +kernel
theorem dL_minimal_139 : decode cL_minimal 139 = .ok (.iconst 0, 1) := by decide +kernel
theorem dL_minimal_140 : decode cL_minimal 140 = .ok (.istore 10, 2) := by decide +kernel
theorem dL_minimal_142 : decode cL_minimal 142 = .ok (.iload 10, 2) := by decide +kernel
theorem dL_minimal_144 : decode cL_minimal 144 = .ok (.aload_n 0, 1) := by decide +kernel
theorem dL_minimal_145 : decode cL_minimal 145 = .ok (.invokevirtual 91, 3) := by decide +kernel
theorem dL_minimal_148 : decode cL_minimal 148 = .ok (.if_icmp .ge 68, 3) := by decide +kernel
theorem dL_minimal_151 : decode cL_minimal 151 = .ok (.aload_n 0, 1) := by decide +kernel
theorem dL_minimal_152 : decode cL_minimal 152 = .ok (.iload 10, 2) := by decide +kernel
theorem dL_minimal_154 : decode cL_minimal 154 = .ok (.invokestatic 94, 3) := by decide +kernel
theorem dL_minimal_157 : decode cL_minimal 157 = .ok (.aload_n 0, 1) := by decide +kernel
theorem dL_minimal_158 : decode cL_minimal 158 = .ok (.iload 10, 2) := by decide +kernel
theorem dL_minimal_160 : decode cL_minimal 160 = .ok (.invokevirtual 98, 3) := by decide +kernel
theorem dL_minimal_163 : decode cL_minimal 163 = .ok (.if_icmp .ne 21, 3) := by decide +kernel
theorem dL_minimal_166 : decode cL_minimal 166 = .ok (.aload_n 0, 1) := by decide +kernel
theorem dL_minimal_167 : decode cL_minimal 167 = .ok (.iload 10, 2) := by decide +kernel
theorem dL_minimal_169 : decode cL_minimal 169 = .ok (.invokevirtual 101, 3) := by decide +kernel
theorem dL_minimal_172 : decode cL_minimal 172 = .ok (.ifCond .ne 14, 3) := by decide +kernel
theorem dL_minimal_175 : decode cL_minimal 175 = .ok (.aload_n 0, 1) := by decide +kernel
theorem dL_minimal_176 : decode cL_minimal 176 = .ok (.iload 10, 2) := by decide +kernel
theorem dL_minimal_178 : decode cL_minimal 178 = .ok (.invokevirtual 98, 3) := by decide +kernel
theorem dL_minimal_181 : decode cL_minimal 181 = .ok (.ifCond .eq 5, 3) := by decide +kernel
theorem dL_minimal_184 : decode cL_minimal 184 = .ok (.iconst 0, 1) := by decide +kernel
theorem dL_minimal_185 : decode cL_minimal 185 = .ok (.ireturn, 1) := by decide +kernel
theorem dL_minimal_186 : decode cL_minimal 186 = .ok (.aload_n 0, 1) := by decide +kernel
theorem dL_minimal_187 : decode cL_minimal 187 = .ok (.iload 10, 2) := by decide +kernel
theorem dL_minimal_189 : decode cL_minimal 189 = .ok (.invokevirtual 98, 3) := by decide +kernel
theorem dL_minimal_192 : decode cL_minimal 192 = .ok (.iload 9, 2) := by decide +kernel
theorem dL_minimal_194 : decode cL_minimal 194 = .ok (.if_icmp .le 12, 3) := by decide +kernel
theorem dL_minimal_197 : decode cL_minimal 197 = .ok (.aload_n 0, 1) := by decide +kernel
theorem dL_minimal_198 : decode cL_minimal 198 = .ok (.iload 10, 2) := by decide +kernel
theorem dL_minimal_200 : decode cL_minimal 200 = .ok (.invokevirtual 98, 3) := by decide +kernel
theorem dL_minimal_203 : decode cL_minimal 203 = .ok (.goto 5, 3) := by decide +kernel
theorem dL_minimal_206 : decode cL_minimal 206 = .ok (.iload 9, 2) := by decide +kernel
theorem dL_minimal_208 : decode cL_minimal 208 = .ok (.istore 9, 2) := by decide +kernel
theorem dL_minimal_210 : decode cL_minimal 210 = .ok (.iinc 10 1, 3) := by decide +kernel
theorem dL_minimal_213 : decode cL_minimal 213 = .ok (.goto (-71), 3) := by decide +kernel
theorem dL_minimal_216 : decode cL_minimal 216 = .ok (.lload 5, 2) := by decide +kernel
theorem dL_minimal_218 : decode cL_minimal 218 = .ok (.lconst 1, 1) := by decide +kernel
theorem dL_minimal_219 : decode cL_minimal 219 = .ok (.iload_n 1, 1) := by decide +kernel
theorem dL_minimal_220 : decode cL_minimal 220 = .ok (.lshl, 1) := by decide +kernel
theorem dL_minimal_221 : decode cL_minimal 221 = .ok (.lconst 1, 1) := by decide +kernel
theorem dL_minimal_222 : decode cL_minimal 222 = .ok (.lsub, 1) := by decide +kernel
theorem dL_minimal_223 : decode cL_minimal 223 = .ok (.lcmp, 1) := by decide +kernel
theorem dL_minimal_224 : decode cL_minimal 224 = .ok (.ifCond .ne 43, 3) := by decide +kernel
theorem dL_minimal_227 : decode cL_minimal 227 = .ok (.lload 7, 2) := by decide +kernel
theorem dL_minimal_229 : decode cL_minimal 229 = .ok (.lload 5, 2) := by decide +kernel
theorem dL_minimal_231 : decode cL_minimal 231 = .ok (.lcmp, 1) := by decide +kernel
theorem dL_minimal_232 : decode cL_minimal 232 = .ok (.ifCond .ne 35, 3) := by decide +kernel
theorem dL_minimal_235 : decode cL_minimal 235 = .ok (.iload 9, 2) := by decide +kernel
theorem dL_minimal_237 : decode cL_minimal 237 = .ok (.iconst 1, 1) := by decide +kernel
theorem dL_minimal_238 : decode cL_minimal 238 = .ok (.aload_n 0, 1) := by decide +kernel
theorem dL_minimal_239 : decode cL_minimal 239 = .ok (.invokevirtual 58, 3) := by decide +kernel
theorem dL_minimal_242 : decode cL_minimal 242 = .ok (.ishl, 1) := by decide +kernel
theorem dL_minimal_243 : decode cL_minimal 243 = .ok (.if_icmp .ge 24, 3) := by decide +kernel
theorem dL_minimal_246 : decode cL_minimal 246 = .ok (.aload_n 0, 1) := by decide +kernel
theorem dL_minimal_247 : decode cL_minimal 247 = .ok (.invokevirtual 58, 3) := by decide +kernel
theorem dL_minimal_250 : decode cL_minimal 250 = .ok (.iconst 1, 1) := by decide +kernel
theorem dL_minimal_251 : decode cL_minimal 251 = .ok (.if_icmp .le 18, 3) := by decide +kernel
theorem dL_minimal_254 : decode cL_minimal 254 = .ok (.iload 9, 2) := by decide +kernel
theorem dL_minimal_256 : decode cL_minimal 256 = .ok (.iconst 1, 1) := by decide +kernel
theorem dL_minimal_257 : decode cL_minimal 257 = .ok (.aload_n 0, 1) := by decide +kernel
theorem dL_minimal_258 : decode cL_minimal 258 = .ok (.invokevirtual 58, 3) := by decide +kernel
theorem dL_minimal_261 : decode cL_minimal 261 = .ok (.iconst 1, 1) := by decide +kernel
theorem dL_minimal_262 : decode cL_minimal 262 = .ok (.isub, 1) := by decide +kernel
theorem dL_minimal_263 : decode cL_minimal 263 = .ok (.ishl, 1) := by decide +kernel
theorem dL_minimal_264 : decode cL_minimal 264 = .ok (.if_icmp .ge 5, 3) := by decide +kernel
theorem dL_minimal_267 : decode cL_minimal 267 = .ok (.iconst 0, 1) := by decide +kernel
theorem dL_minimal_268 : decode cL_minimal 268 = .ok (.ireturn, 1) := by decide +kernel
theorem dL_minimal_269 : decode cL_minimal 269 = .ok (.aload_n 0, 1) := by decide +kernel
theorem dL_minimal_270 : decode cL_minimal 270 = .ok (.invokevirtual 104, 3) := by decide +kernel
theorem dL_minimal_273 : decode cL_minimal 273 = .ok (.aload_n 0, 1) := by decide +kernel
theorem dL_minimal_274 : decode cL_minimal 274 = .ok (.invokevirtual 107, 3) := by decide +kernel
theorem dL_minimal_277 : decode cL_minimal 277 = .ok (.iload_n 1, 1) := by decide +kernel
theorem dL_minimal_278 : decode cL_minimal 278 = .ok (.if_icmp .ne 7, 3) := by decide +kernel
theorem dL_minimal_281 : decode cL_minimal 281 = .ok (.iconst 1, 1) := by decide +kernel
theorem dL_minimal_282 : decode cL_minimal 282 = .ok (.goto 4, 3) := by decide +kernel
theorem dL_minimal_285 : decode cL_minimal 285 = .ok (.iconst 0, 1) := by decide +kernel
theorem dL_minimal_286 : decode cL_minimal 286 = .ok (.ireturn, 1) := by decide +kernel
set_option maxRecDepth 20000 in
theorem ggL_lines_L_at : GoodIn wsL_lines wsL_at := goodIn_r _ [5] (by decide +kernel) (by decide +kernel)
set_option maxRecDepth 20000 in
theorem gL_lines_L_at : GoodIn wsL_lines (va_wsS RL 110 yL_at wsL_at) := goodIn_app (goodIn_of _ (by decide +kernel)) ggL_lines_L_at
set_option maxRecDepth 20000 in
theorem ggL_lines_X7_addLine : GoodIn wsL_lines wsX7_addLine := goodIn_ca (goodIn_ca (goodIn_r _ [10, 11, 12, 13, 9, 14, 15, 16, 17, 18, 19, 20, 21, 22, 23, 24, 25, 26, 27, 28, 29, 30, 31, 32, 33, 34, 35, 36, 37, 38, 39, 40, 41, 42, 43, 44, 45, 46, 47, 48, 49, 50, 51, 52, 53, 54, 55, 56, 374, 375, 376, 377, 378, 379, 380, 381, 382, 383] (by decide +kernel) (by decide +kernel)) (goodIn_sub (fun _ h => List.mem_cons_of_mem _ (List.mem_append_left _ (List.mem_append_left _ (List.mem_append_right _ h)))) (by decide +kernel))) (goodIn_sub (fun _ h => List.mem_cons_of_mem _ (List.mem_append_left _ (List.mem_append_right _ h))) (by decide +kernel))
set_option maxRecDepth 20000 in
theorem gL_lines_X7_addLine : GoodIn wsL_lines (wsV RL 114 RX7 yX7_addLine wsX7_addLine) := goodIn_app (goodIn_of _ (by decide +kernel)) ggL_lines_X7_addLine
set_option maxRecDepth 20000 in
theorem ggL_lines_L_displaced : GoodIn wsL_lines wsL_displaced := goodIn_r _ [59, 60, 61, 62, 4, 63, 64, 65, 66, 67, 68, 69, 70, 71, 72, 73, 74, 75, 76, 77, 78, 79, 80, 81, 82, 83, 84, 85] (by decide +kernel) (by decide +kernel)
set_option maxRecDepth 20000 in
theorem gL_lines_L_displaced : GoodIn wsL_lines (va_wsS RL 118 yL_displaced wsL_displaced) := goodIn_app (goodIn_of _ (by decide +kernel)) ggL_lines_L_displaced
set_option maxRecDepth 20000 in
theorem ggL_lines_L_joined : GoodIn wsL_lines wsL_joined := goodIn_r _ [88, 61, 62, 4, 63, 64, 65, 66, 67, 68, 69, 70, 71, 72, 73, 74, 75, 76, 77, 78, 79, 80, 81, 82] (by decide +kernel) (by decide +kernel)
set_option maxRecDepth 20000 in
theorem gL_lines_L_joined : GoodIn wsL_lines (va_wsS RL 122 yL_joined wsL_joined) := goodIn_app (goodIn_of _ (by decide +kernel)) ggL_lines_L_joined
set_option maxRecDepth 20000 in
theorem ggL_lines_L_minimal : GoodIn wsL_lines wsL_minimal := goodIn_ca (goodIn_ca (goodIn_ca (goodIn_r _ [91, 92, 93, 94, 9, 95, 15, 16, 25, 26, 11, 96, 97, 98, 27, 21, 22, 23, 24, 99, 100, 101, 102, 103, 104, 105, 106, 107, 108, 109, 110, 111, 112, 113, 114, 115, 116, 117, 118, 119, 120, 121, 122, 123, 43, 124, 125, 46, 126, 127, 128, 129, 130, 33, 131, 132, 37, 42, 44, 45, 133, 134, 135, 136, 137, 138, 139, 140, 141, 142, 143, 144, 145, 146, 147, 148, 149, 150, 151, 54, 55, 56, 152, 153, 154, 155, 156, 157, 158, 159, 160, 161, 162, 163, 164, 165, 166, 167, 168, 169, 170, 171, 172, 173, 174, 175, 176, 177, 178, 179, 180, 181, 182, 183, 184, 185, 186, 187, 188, 189, 190, 191, 192, 193, 194, 195, 196, 197, 198, 199, 200, 201, 202, 203, 204, 205, 206, 207, 208, 209, 210, 211, 212, 213, 214, 215, 216, 217, 218, 219, 220, 221, 222, 223, 224, 225, 226, 227, 228, 229, 230, 231, 232, 233, 234, 235, 236, 237, 238, 239, 240, 241, 242, 243, 244, 245, 246, 247, 248, 249, 250, 251, 252, 253, 254, 255, 256, 257, 258, 259, 260, 261, 262, 263, 264, 265, 266, 267, 268, 269, 270, 271, 272, 273, 274, 275, 276, 277, 278, 279, 280, 281, 282, 283, 284, 285, 286, 287, 288, 289, 290, 291, 292, 293, 294, 295, 296, 297, 298, 299, 300, 301, 17, 18, 19, 20, 302, 303, 304, 305, 306, 307, 308, 309, 310, 311, 312, 313, 314, 315, 316, 317, 318, 319, 320, 321, 322, 323, 324, 325, 326, 327, 328, 329, 330, 331, 332, 333, 334, 335, 336, 337, 338, 4, 339, 340, 341, 342, 343, 344, 345, 346, 347, 348, 349, 350, 351, 352, 353, 354, 355, 356, 357, 358, 359, 360, 361, 362, 363, 364, 365, 366, 374, 375, 376, 377, 378, 379, 380, 381, 382, 384, 385, 386, 387, 388, 389, 390, 391, 392, 393, 394, 395, 396, 397, 383, 398, 399, 400, 401, 402, 403, 404, 405, 406, 407, 408] (by decide +kernel) (by decide +kernel)) (goodIn_sub (fun _ h => List.mem_cons_of_mem _ (List.mem_append_left _ (List.mem_append_left _ (List.mem_append_right _ h)))) (by decide +kernel))) (goodIn_sub (fun _ h => List.mem_cons_of_mem _ (List.mem_append_left _ (List.mem_append_right _ h))) (by decide +kernel))) (goodIn_sub (fun _ h => List.mem_cons_of_mem _ (List.mem_append_right _ h)) (by decide +kernel))
set_option maxRecDepth 20000 in
theorem gL_lines_L_minimal : GoodIn wsL_lines (va_wsS RL 126 yL_minimal wsL_minimal) := goodIn_app (goodIn_of _ (by decide +kernel)) ggL_lines_L_minimal
set_option maxRecDepth 20000 in
theorem ggL_lines_X7_remove : GoodIn wsL_lines wsX7_remove := goodIn_ca (goodIn_ca (goodIn_r _ [370, 25, 26, 11, 17, 18, 9, 19, 15, 16, 20, 21, 22, 23, 24, 27, 32, 33, 34, 35, 36, 37, 38, 39, 40, 41, 42, 43, 44, 45, 46, 371, 372, 373, 54, 55, 56, 374, 375, 376, 377, 378, 379, 380, 381, 382, 383] (by decide +kernel) (by decide +kernel)) (goodIn_sub (fun _ h => List.mem_cons_of_mem _ (List.mem_append_left _ (List.mem_append_right _ h))) (by decide +kernel))) (goodIn_sub (fun _ h => List.mem_cons_of_mem _ (List.mem_append_left _ (List.mem_append_left _ (List.mem_append_right _ h)))) (by decide +kernel))
set_option maxRecDepth 20000 in
theorem gL_lines_X7_remove : GoodIn wsL_lines (wsV RL 130 RX7 yX7_remove wsX7_remove) := goodIn_app (goodIn_of _ (by decide +kernel)) ggL_lines_X7_remove
theorem dL_lines_0 : decode cL_lines 0 = .ok (.iconst 1, 1) := by decide +kernel
theorem dL_lines_1 : decode cL_lines 1 = .ok (.iload_n 1, 1) := by decide +kernel
theorem dL_lines_2 : decode cL_lines 2 = .ok (.bipush 20, 2) := by decide +kernel
theorem dL_lines_4 : decode cL_lines 4 = .ok (.invokestatic 110, 3) := by decide +kernel
theorem dL_lines_7 : decode cL_lines 7 = .ok (.iadd, 1) := by decide +kernel
theorem dL_lines_8 : decode cL_lines 8 = .ok (.istore 6, 2) := by decide +kernel
theorem dL_lines_10 : decode cL_lines 10 = .ok (.iconst 1, 1) := by decide +kernel
theorem dL_lines_11 : decode cL_lines 11 = .ok (.iload_n 2, 1) := by decide +kernel
theorem dL_lines_12 : decode cL_lines 12 = .ok (.iload_n 1, 1) := by decide +kernel
theorem dL_lines_13 : decode cL_lines 13 = .ok (.iconst 5, 1) := by decide +kernel
theorem dL_lines_14 : decode cL_lines 14 = .ok (.ishr, 1) := by decide +kernel
theorem dL_lines_15 : decode cL_lines 15 = .ok (.iconst 3, 1) := by decide +kernel
theorem dL_lines_16 : decode cL_lines 16 = .ok (.invokestatic 110, 3) := by decide +kernel
theorem dL_lines_19 : decode cL_lines 19 = .ok (.ifCond .ne 9, 3) := by decide +kernel
theorem dL_lines_22 : decode cL_lines 22 = .ok (.sipush 4000, 3) := by decide +kernel
theorem dL_lines_25 : decode cL_lines 25 = .ok (.goto 6, 3) := by decide +kernel
theorem dL_lines_28 : decode cL_lines 28 = .ok (.sipush 300, 3) := by decide +kernel
theorem dL_lines_31 : decode cL_lines 31 = .ok (.invokestatic 110, 3) := by decide +kernel
theorem dL_lines_34 : decode cL_lines 34 = .ok (.iadd, 1) := by decide +kernel
theorem dL_lines_35 : decode cL_lines 35 = .ok (.istore 7, 2) := by decide +kernel
theorem dL_lines_37 : decode cL_lines 37 = .ok (.iload_n 2, 1) := by decide +kernel
theorem dL_lines_38 : decode cL_lines 38 = .ok (.iconst 4, 1) := by decide +kernel
theorem dL_lines_39 : decode cL_lines 39 = .ok (.ishr, 1) := by decide +kernel
theorem dL_lines_40 : decode cL_lines 40 = .ok (.ldc 113, 2) := by decide +kernel
theorem dL_lines_42 : decode cL_lines 42 = .ok (.iload 6, 2) := by decide +kernel
theorem dL_lines_44 : decode cL_lines 44 = .ok (.iload 7, 2) := by decide +kernel
theorem dL_lines_46 : decode cL_lines 46 = .ok (.imul, 1) := by decide +kernel
theorem dL_lines_47 : decode cL_lines 47 = .ok (.isub, 1) := by decide +kernel
theorem dL_lines_48 : decode cL_lines 48 = .ok (.invokestatic 110, 3) := by decide +kernel
theorem dL_lines_51 : decode cL_lines 51 = .ok (.istore 8, 2) := by decide +kernel
theorem dL_lines_53 : decode cL_lines 53 = .ok (.iconst 0, 1) := by decide +kernel
theorem dL_lines_54 : decode cL_lines 54 = .ok (.istore 9, 2) := by decide +kernel
theorem dL_lines_56 : decode cL_lines 56 = .ok (.iload 9, 2) := by decide +kernel
theorem dL_lines_58 : decode cL_lines 58 = .ok (.iload 6, 2) := by decide +kernel
theorem dL_lines_60 : decode cL_lines 60 = .ok (.if_icmp .ge 21, 3) := by decide +kernel
theorem dL_lines_63 : decode cL_lines 63 = .ok (.aload_n 3, 1) := by decide +kernel
theorem dL_lines_64 : decode cL_lines 64 = .ok (.iload 9, 2) := by decide +kernel
theorem dL_lines_66 : decode cL_lines 66 = .ok (.iload 8, 2) := by decide +kernel
theorem dL_lines_68 : decode cL_lines 68 = .ok (.iload 9, 2) := by decide +kernel
theorem dL_lines_70 : decode cL_lines 70 = .ok (.iload 7, 2) := by decide +kernel
theorem dL_lines_72 : decode cL_lines 72 = .ok (.imul, 1) := by decide +kernel
theorem dL_lines_73 : decode cL_lines 73 = .ok (.iadd, 1) := by decide +kernel
theorem dL_lines_74 : decode cL_lines 74 = .ok (.iastore, 1) := by decide +kernel
theorem dL_lines_75 : decode cL_lines 75 = .ok (.iinc 9 1, 3) := by decide +kernel
theorem dL_lines_78 : decode cL_lines 78 = .ok (.goto (-22), 3) := by decide +kernel
theorem dL_lines_81 : decode cL_lines 81 = .ok (.aload_n 0, 1) := by decide +kernel
theorem dL_lines_82 : decode cL_lines 82 = .ok (.iload 8, 2) := by decide +kernel
theorem dL_lines_84 : decode cL_lines 84 = .ok (.iload 7, 2) := by decide +kernel
theorem dL_lines_86 : decode cL_lines 86 = .ok (.iload 6, 2) := by decide +kernel
theorem dL_lines_88 : decode cL_lines 88 = .ok (.invokevirtual 114, 3) := by decide +kernel
theorem dL_lines_91 : decode cL_lines 91 = .ok (.iload 6, 2) := by decide +kernel
theorem dL_lines_93 : decode cL_lines 93 = .ok (.if_icmp .eq 5, 3) := by decide +kernel
theorem dL_lines_96 : decode cL_lines 96 = .ok (.iconst 0, 1) := by decide +kernel
theorem dL_lines_97 : decode cL_lines 97 = .ok (.ireturn, 1) := by decide +kernel
theorem dL_lines_98 : decode cL_lines 98 = .ok (.iconst 1, 1) := by decide +kernel
theorem dL_lines_99 : decode cL_lines 99 = .ok (.istore 9, 2) := by decide +kernel
theorem dL_lines_101 : decode cL_lines 101 = .ok (.iload 9, 2) := by decide +kernel
theorem dL_lines_103 : decode cL_lines 103 = .ok (.bipush 6, 2) := by decide +kernel
theorem dL_lines_105 : decode cL_lines 105 = .ok (.if_icmp .gt 69, 3) := by decide +kernel
theorem dL_lines_108 : decode cL_lines 108 = .ok (.iload 6, 2) := by decide +kernel
theorem dL_lines_110 : decode cL_lines 110 = .ok (.iload 6, 2) := by decide +kernel
theorem dL_lines_112 : decode cL_lines 112 = .ok (.iload 9, 2) := by decide +kernel
theorem dL_lines_114 : decode cL_lines 114 = .ok (.iadd, 1) := by decide +kernel
theorem dL_lines_115 : decode cL_lines 115 = .ok (.iconst 1, 1) := by decide +kernel
theorem dL_lines_116 : decode cL_lines 116 = .ok (.isub, 1) := by decide +kernel
theorem dL_lines_117 : decode cL_lines 117 = .ok (.iload 9, 2) := by decide +kernel
theorem dL_lines_119 : decode cL_lines 119 = .ok (.idiv, 1) := by decide +kernel
theorem dL_lines_120 : decode cL_lines 120 = .ok (.aload_n 3, 1) := by decide +kernel
theorem dL_lines_121 : decode cL_lines 121 = .ok (.aload 4, 2) := by decide +kernel
theorem dL_lines_123 : decode cL_lines 123 = .ok (.invokestatic 118, 3) := by decide +kernel
theorem dL_lines_126 : decode cL_lines 126 = .ok (.ifCond .eq 42, 3) := by decide +kernel
theorem dL_lines_129 : decode cL_lines 129 = .ok (.iload 6, 2) := by decide +kernel
theorem dL_lines_131 : decode cL_lines 131 = .ok (.aload_n 3, 1) := by decide +kernel
theorem dL_lines_132 : decode cL_lines 132 = .ok (.aload 5, 2) := by decide +kernel
theorem dL_lines_134 : decode cL_lines 134 = .ok (.invokestatic 122, 3) := by decide +kernel
theorem dL_lines_137 : decode cL_lines 137 = .ok (.ifCond .ne 6, 3) := by decide +kernel
theorem dL_lines_140 : decode cL_lines 140 = .ok (.goto 28, 3) := by decide +kernel
theorem dL_lines_143 : decode cL_lines 143 = .ok (.aload_n 0, 1) := by decide +kernel
theorem dL_lines_144 : decode cL_lines 144 = .ok (.iload 6, 2) := by decide +kernel
theorem dL_lines_146 : decode cL_lines 146 = .ok (.iload 9, 2) := by decide +kernel
theorem dL_lines_148 : decode cL_lines 148 = .ok (.iconst 1, 1) := by decide +kernel
theorem dL_lines_149 : decode cL_lines 149 = .ok (.iload_n 2, 1) := by decide +kernel
theorem dL_lines_150 : decode cL_lines 150 = .ok (.iload 9, 2) := by decide +kernel
theorem dL_lines_152 : decode cL_lines 152 = .ok (.ishr, 1) := by decide +kernel
theorem dL_lines_153 : decode cL_lines 153 = .ok (.bipush 12, 2) := by decide +kernel
theorem dL_lines_155 : decode cL_lines 155 = .ok (.invokestatic 110, 3) := by decide +kernel
theorem dL_lines_158 : decode cL_lines 158 = .ok (.iadd, 1) := by decide +kernel
theorem dL_lines_159 : decode cL_lines 159 = .ok (.aload_n 3, 1) := by decide +kernel
theorem dL_lines_160 : decode cL_lines 160 = .ok (.invokestatic 126, 3) := by decide +kernel
theorem dL_lines_163 : decode cL_lines 163 = .ok (.ifCond .ne 5, 3) := by decide +kernel
theorem dL_lines_166 : decode cL_lines 166 = .ok (.iconst 0, 1) := by decide +kernel
theorem dL_lines_167 : decode cL_lines 167 = .ok (.ireturn, 1) := by decide +kernel
theorem dL_lines_168 : decode cL_lines 168 = .ok (.iinc 9 1, 3) := by decide +kernel
theorem dL_lines_171 : decode cL_lines 171 = .ok (.goto (-70), 3) := by decide +kernel
theorem dL_lines_174 : decode cL_lines 174 = .ok (.iconst 0, 1) := by decide +kernel
theorem dL_lines_175 : decode cL_lines 175 = .ok (.istore 9, 2) := by decide +kernel
theorem dL_lines_177 : decode cL_lines 177 = .ok (.iload 9, 2) := by decide +kernel
theorem dL_lines_179 : decode cL_lines 179 = .ok (.iload 6, 2) := by decide +kernel
theorem dL_lines_181 : decode cL_lines 181 = .ok (.if_icmp .ge 29, 3) := by decide +kernel
theorem dL_lines_184 : decode cL_lines 184 = .ok (.aload_n 0, 1) := by decide +kernel
theorem dL_lines_185 : decode cL_lines 185 = .ok (.aload_n 3, 1) := by decide +kernel
theorem dL_lines_186 : decode cL_lines 186 = .ok (.iload 9, 2) := by decide +kernel
theorem dL_lines_188 : decode cL_lines 188 = .ok (.iaload, 1) := by decide +kernel
theorem dL_lines_189 : decode cL_lines 189 = .ok (.invokevirtual 130, 3) := by decide +kernel
theorem dL_lines_192 : decode cL_lines 192 = .ok (.iload 6, 2) := by decide +kernel
theorem dL_lines_194 : decode cL_lines 194 = .ok (.iconst 1, 1) := by decide +kernel
theorem dL_lines_195 : decode cL_lines 195 = .ok (.isub, 1) := by decide +kernel
theorem dL_lines_196 : decode cL_lines 196 = .ok (.iload 9, 2) := by decide +kernel
theorem dL_lines_198 : decode cL_lines 198 = .ok (.isub, 1) := by decide +kernel
theorem dL_lines_199 : decode cL_lines 199 = .ok (.if_icmp .eq 5, 3) := by decide +kernel
theorem dL_lines_202 : decode cL_lines 202 = .ok (.iconst 0, 1) := by decide +kernel
theorem dL_lines_203 : decode cL_lines 203 = .ok (.ireturn, 1) := by decide +kernel
theorem dL_lines_204 : decode cL_lines 204 = .ok (.iinc 9 1, 3) := by decide +kernel
theorem dL_lines_207 : decode cL_lines 207 = .ok (.goto (-30), 3) := by decide +kernel
theorem dL_lines_210 : decode cL_lines 210 = .ok (.iconst 1, 1) := by decide +kernel
theorem dL_lines_211 : decode cL_lines 211 = .ok (.ireturn, 1) := by decide +kernel
set_option maxRecDepth 20000 in
theorem ggL_law_X7_init : GoodIn wsL_law wsX7_init := goodIn_r _ [7, 8, 9, 10, 11, 12, 13, 14, 15, 16, 17, 18, 19, 20, 21, 22, 23, 24, 25, 26, 27, 28, 29, 30, 31, 32, 33, 34, 35, 36, 37, 38, 39, 40, 41, 42, 3, 43, 44, 45, 46, 47, 48, 49, 50, 51, 52, 53, 54, 55, 56, 57, 58, 59, 60, 61, 62, 63, 64, 65, 66, 67, 68, 69, 70, 71, 72, 73, 74, 75, 76, 77, 434, 435, 427, 428, 429, 430, 431, 432, 433, 436, 437, 438, 439, 440, 441, 442, 443, 444, 445, 446, 447, 448, 449, 450, 451, 452, 453, 454, 455, 456, 457, 458, 459, 460, 461] (by decide +kernel) (by decide +kernel)
set_option maxRecDepth 20000 in
theorem gL_law_X7_init : GoodIn wsL_law (wsX7_init) := ggL_law_X7_init
set_option maxRecDepth 20000 in
theorem ggL_law_L_cell : GoodIn wsL_law wsL_cell := goodIn_r _ [81, 82] (by decide +kernel) (by decide +kernel)
set_option maxRecDepth 20000 in
theorem gL_law_L_cell : GoodIn wsL_law (va_wsS RL 134 yL_cell wsL_cell) := goodIn_app (goodIn_of _ (by decide +kernel)) ggL_law_L_cell
set_option maxRecDepth 20000 in
theorem gq_c : GoodIn wsL_law [Cond.code yL_lines cL_lines 10 (some .boolean)] := goodIn_r _ [85] (by decide +kernel) (by decide +kernel)
set_option maxRecDepth 20000 in
theorem gq_r0 : GoodIn wsL_law wsL_lines_r1 := goodIn_r _ [86, 87, 88, 80, 89, 90, 91, 92, 2, 93, 14, 94, 95, 96, 97, 98, 99, 100, 101, 102, 103, 104, 105, 106] (by decide +kernel) (by decide +kernel)
set_option maxRecDepth 20000 in
theorem gq_r1 : GoodIn wsL_law wsL_lines_r2 := goodIn_r _ [107, 108, 109, 110, 111, 112, 113, 114, 13, 115, 116, 117, 35, 118, 119, 120, 121, 122, 29, 123, 124, 43, 125, 126] (by decide +kernel) (by decide +kernel)
set_option maxRecDepth 20000 in
theorem gq_r2 : GoodIn wsL_law wsL_lines_r3 := goodIn_r _ [127, 128, 129, 130, 131, 132, 133, 134, 135, 136, 137, 138, 139, 140, 141, 142, 143, 144, 145, 146, 147, 148, 149, 150] (by decide +kernel) (by decide +kernel)
set_option maxRecDepth 20000 in
theorem gq_r3 : GoodIn wsL_law wsL_lines_r4 := goodIn_r _ [151, 152, 153, 154, 155, 156, 157, 158, 159, 160, 161, 162, 163, 164, 165, 166, 167, 168, 169, 170, 171, 172, 173, 18] (by decide +kernel) (by decide +kernel)
set_option maxRecDepth 20000 in
theorem gq_r4 : GoodIn wsL_law wsL_lines_r5 := goodIn_r _ [26, 22, 174, 17, 175, 176, 177, 178, 179, 180, 181, 182, 183, 184, 185, 50, 52, 186, 53, 187, 49, 188, 189, 190] (by decide +kernel) (by decide +kernel)
set_option maxRecDepth 20000 in
theorem gq_r5 : GoodIn wsL_law wsL_lines_r6 := goodIn_r _ [191, 62, 192, 193, 194, 195, 196, 197, 198, 199, 200, 201, 202, 203, 204, 205, 206, 207, 208, 209, 210, 211, 212, 213] (by decide +kernel) (by decide +kernel)
set_option maxRecDepth 20000 in
theorem gq_r6 : GoodIn wsL_law wsL_lines_r7 := goodIn_r _ [214, 215, 216, 217, 218, 219, 61, 220, 221, 222, 223, 224, 225, 226, 227, 63, 228, 229, 230, 231, 55, 56, 232, 233] (by decide +kernel) (by decide +kernel)
set_option maxRecDepth 20000 in
theorem gq_r7 : GoodIn wsL_law wsL_lines_r8 := goodIn_r _ [234, 235, 236, 40, 41, 42, 237, 238, 239, 240, 241, 242, 243, 244, 245, 246, 247, 248, 249, 250, 251, 252, 253, 254] (by decide +kernel) (by decide +kernel)
set_option maxRecDepth 20000 in
theorem gq_r8 : GoodIn wsL_law wsL_lines_r9 := goodIn_r _ [255, 256, 257, 258, 54, 259, 260, 261, 262, 263, 264, 265, 266, 267, 268, 269, 270, 25, 271, 272, 273, 274, 275, 276] (by decide +kernel) (by decide +kernel)
set_option maxRecDepth 20000 in
theorem gq_r9 : GoodIn wsL_law wsL_lines_r10 := goodIn_r _ [277, 278, 279, 73, 280, 281, 282, 283, 284, 285, 286, 287, 288, 289, 76, 75, 290, 291, 292, 293, 294, 77, 295, 296] (by decide +kernel) (by decide +kernel)
set_option maxRecDepth 20000 in
theorem gq_r10 : GoodIn wsL_law wsL_lines_r11 := goodIn_r _ [297, 298, 299, 300, 301, 302, 303, 304, 305, 306, 307, 308, 309, 310, 30, 311, 312, 313, 314, 315, 316, 317, 318, 319] (by decide +kernel) (by decide +kernel)
set_option maxRecDepth 20000 in
theorem gq_r11 : GoodIn wsL_law wsL_lines_r12 := goodIn_r _ [320, 21, 321, 322, 68, 323, 324, 325, 326, 327, 328, 329, 330, 331, 332, 333, 334, 335, 336, 337, 338, 339, 340, 341] (by decide +kernel) (by decide +kernel)
set_option maxRecDepth 20000 in
theorem gq_r12 : GoodIn wsL_law wsL_lines_r13 := goodIn_r _ [342, 343, 344, 345, 346, 347, 348, 349, 350, 351, 352, 353, 354, 355, 356, 357, 358, 359, 360, 361, 362, 363, 364, 365] (by decide +kernel) (by decide +kernel)
set_option maxRecDepth 20000 in
theorem gq_r13 : GoodIn wsL_law wsL_lines_r14 := goodIn_r _ [366, 367, 368, 369, 370, 371, 372, 373, 374, 375, 376, 377, 378, 379, 380, 381, 382, 383, 384, 385, 386, 387, 388, 389] (by decide +kernel) (by decide +kernel)
set_option maxRecDepth 20000 in
theorem gq_r14 : GoodIn wsL_law wsL_lines_r15 := goodIn_r _ [390, 391, 392, 393, 394, 395, 396, 397, 398, 399, 400, 401, 402, 403, 404, 405, 406, 407, 408, 409, 410, 411, 412, 413] (by decide +kernel) (by decide +kernel)
set_option maxRecDepth 20000 in
theorem gq_r15 : GoodIn wsL_law wsL_lines_r16 := goodIn_r _ [414, 415, 416, 417, 418, 419, 420, 421, 422, 423, 424, 425, 426] (by decide +kernel) (by decide +kernel)
set_option maxRecDepth 20000 in
theorem gq_wsX70 : GoodIn wsL_law wsX70 := goodIn_r _ [427, 428, 429, 430, 431, 432, 433] (by decide +kernel) (by decide +kernel)
set_option maxRecDepth 20000 in
theorem gq_wsX40 : GoodIn wsL_law wsX40 := goodIn_r _ [434, 435] (by decide +kernel) (by decide +kernel)
set_option maxRecDepth 20000 in
theorem gq_wsX60 : GoodIn wsL_law wsX60 := goodIn_r _ [456] (by decide +kernel) (by decide +kernel)
set_option maxRecDepth 20000 in
theorem gq_wsX00 : GoodIn wsL_law wsX00 := goodIn_r _ [436, 437, 438, 439, 440, 441, 442, 443, 444] (by decide +kernel) (by decide +kernel)
set_option maxRecDepth 20000 in
theorem gq_wsX20 : GoodIn wsL_law wsX20 := goodIn_r _ [457, 458, 459, 460, 461] (by decide +kernel) (by decide +kernel)
set_option maxRecDepth 20000 in
theorem gq_wsX10 : GoodIn wsL_law wsX10 := goodIn_r _ [448, 449, 450, 451, 452, 453, 454, 455] (by decide +kernel) (by decide +kernel)
set_option maxRecDepth 20000 in
theorem gq_wsX50 : GoodIn wsL_law wsX50 := goodIn_r _ [445, 446, 447] (by decide +kernel) (by decide +kernel)
set_option maxRecDepth 20000 in
theorem ggL_law_L_lines : GoodIn wsL_law wsL_lines := goodIn_ca (goodIn_ca (goodIn_ca (goodIn_ca (goodIn_ca (goodIn_ca (goodIn_ca (goodIn_ca (goodIn_ca (goodIn_ca (goodIn_app gq_c (goodIn_app gq_r0 (goodIn_app gq_r1 (goodIn_app gq_r2 (goodIn_app gq_r3 (goodIn_app gq_r4 (goodIn_app gq_r5 (goodIn_app gq_r6 (goodIn_app gq_r7 (goodIn_app gq_r8 (goodIn_app gq_r9 (goodIn_app gq_r10 (goodIn_app gq_r11 (goodIn_app gq_r12 (goodIn_app gq_r13 (goodIn_app gq_r14 gq_r15)))))))))))))))) gq_wsX70) gq_wsX40) gq_wsX60) gq_wsX00) gq_wsX20) gq_wsX10) gq_wsX50) (goodIn_sub (fun _ h => List.mem_append_left _ (List.mem_append_left _ (List.mem_append_right _ h))) (by decide +kernel))) (goodIn_sub (fun _ h => List.mem_append_left _ (List.mem_append_right _ h)) (by decide +kernel))) (goodIn_sub (fun _ h => List.mem_append_right _ h) (by decide +kernel))
set_option maxRecDepth 20000 in
theorem gL_law_L_lines : GoodIn wsL_law (va_wsS RL 139 yL_lines wsL_lines) := goodIn_app (goodIn_of _ (by decide +kernel)) ggL_law_L_lines
theorem dL_law_0 : decode cL_law 0 = .ok (.new 59, 3) := by decide +kernel
theorem dL_law_3 : decode cL_law 3 = .ok (.dup, 1) := by decide +kernel
theorem dL_law_4 : decode cL_law 4 = .ok (.invokespecial 133, 3) := by decide +kernel
theorem dL_law_7 : decode cL_law 7 = .ok (.astore_n 1, 1) := by decide +kernel
theorem dL_law_8 : decode cL_law 8 = .ok (.bipush 32, 2) := by decide +kernel
theorem dL_law_10 : decode cL_law 10 = .ok (.newarray .int, 2) := by decide +kernel
theorem dL_law_12 : decode cL_law 12 = .ok (.astore_n 2, 1) := by decide +kernel
theorem dL_law_13 : decode cL_law 13 = .ok (.bipush 32, 2) := by decide +kernel
theorem dL_law_15 : decode cL_law 15 = .ok (.newarray .int, 2) := by decide +kernel
theorem dL_law_17 : decode cL_law 17 = .ok (.astore_n 3, 1) := by decide +kernel
theorem dL_law_18 : decode cL_law 18 = .ok (.bipush 64, 2) := by decide +kernel
theorem dL_law_20 : decode cL_law 20 = .ok (.newarray .int, 2) := by decide +kernel
theorem dL_law_22 : decode cL_law 22 = .ok (.astore 4, 2) := by decide +kernel
theorem dL_law_24 : decode cL_law 24 = .ok (.iconst 0, 1) := by decide +kernel
theorem dL_law_25 : decode cL_law 25 = .ok (.istore 5, 2) := by decide +kernel
theorem dL_law_27 : decode cL_law 27 = .ok (.iload 5, 2) := by decide +kernel
theorem dL_law_29 : decode cL_law 29 = .ok (.iconst 4, 1) := by decide +kernel
theorem dL_law_30 : decode cL_law 30 = .ok (.if_icmp .ge 46, 3) := by decide +kernel
theorem dL_law_33 : decode cL_law 33 = .ok (.aload_n 1, 1) := by decide +kernel
theorem dL_law_34 : decode cL_law 34 = .ok (.aload_n 0, 1) := by decide +kernel
theorem dL_law_35 : decode cL_law 35 = .ok (.iconst 2, 1) := by decide +kernel
theorem dL_law_36 : decode cL_law 36 = .ok (.iload 5, 2) := by decide +kernel
theorem dL_law_38 : decode cL_law 38 = .ok (.imul, 1) := by decide +kernel
theorem dL_law_39 : decode cL_law 39 = .ok (.invokestatic 134, 3) := by decide +kernel
theorem dL_law_42 : decode cL_law 42 = .ok (.ldc 138, 2) := by decide +kernel
theorem dL_law_44 : decode cL_law 44 = .ok (.iand, 1) := by decide +kernel
theorem dL_law_45 : decode cL_law 45 = .ok (.aload_n 0, 1) := by decide +kernel
theorem dL_law_46 : decode cL_law 46 = .ok (.iconst 2, 1) := by decide +kernel
theorem dL_law_47 : decode cL_law 47 = .ok (.iload 5, 2) := by decide +kernel
theorem dL_law_49 : decode cL_law 49 = .ok (.imul, 1) := by decide +kernel
theorem dL_law_50 : decode cL_law 50 = .ok (.iconst 1, 1) := by decide +kernel
theorem dL_law_51 : decode cL_law 51 = .ok (.iadd, 1) := by decide +kernel
theorem dL_law_52 : decode cL_law 52 = .ok (.invokestatic 134, 3) := by decide +kernel
theorem dL_law_55 : decode cL_law 55 = .ok (.ldc 138, 2) := by decide +kernel
theorem dL_law_57 : decode cL_law 57 = .ok (.iand, 1) := by decide +kernel
theorem dL_law_58 : decode cL_law 58 = .ok (.aload_n 2, 1) := by decide +kernel
theorem dL_law_59 : decode cL_law 59 = .ok (.aload_n 3, 1) := by decide +kernel
theorem dL_law_60 : decode cL_law 60 = .ok (.aload 4, 2) := by decide +kernel
theorem dL_law_62 : decode cL_law 62 = .ok (.invokestatic 139, 3) := by decide +kernel
theorem dL_law_65 : decode cL_law 65 = .ok (.ifCond .ne 5, 3) := by decide +kernel
theorem dL_law_68 : decode cL_law 68 = .ok (.iconst 0, 1) := by decide +kernel
theorem dL_law_69 : decode cL_law 69 = .ok (.ireturn, 1) := by decide +kernel
theorem dL_law_70 : decode cL_law 70 = .ok (.iinc 5 1, 3) := by decide +kernel
theorem dL_law_73 : decode cL_law 73 = .ok (.goto (-46), 3) := by decide +kernel
theorem dL_law_76 : decode cL_law 76 = .ok (.iconst 1, 1) := by decide +kernel
theorem dL_law_77 : decode cL_law 77 = .ok (.ireturn, 1) := by decide +kernel
abbrev vwCl : List vw_C := [(RX0, TX0, 9), (RX1, TX1, 8), (RX2, TX2, 5), (RX3, TX3, 0), (RX4, TX4, 2), (RX5, TX5, 3), (RX6, TX6, 1), (RX7, TX7, 7)]
