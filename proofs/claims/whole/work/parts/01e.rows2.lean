theorem dX7_strangers_57 : decode cX7_strangers 57 = .ok (.iconst (-1), 1) := by decide +kernel
theorem dX7_strangers_58 : decode cX7_strangers 58 = .ok (.if_icmp .eq 17, 3) := by decide +kernel
theorem dX7_strangers_61 : decode cX7_strangers 61 = .ok (.aload_n 0, 1) := by decide +kernel
theorem dX7_strangers_62 : decode cX7_strangers 62 = .ok (.iload 5, 2) := by decide +kernel
theorem dX7_strangers_64 : decode cX7_strangers 64 = .ok (.invokevirtual 143, 3) := by decide +kernel
theorem dX7_strangers_67 : decode cX7_strangers 67 = .ok (.iload 4, 2) := by decide +kernel
theorem dX7_strangers_69 : decode cX7_strangers 69 = .ok (.if_icmp .eq 6, 3) := by decide +kernel
theorem dX7_strangers_72 : decode cX7_strangers 72 = .ok (.iinc 3 1, 3) := by decide +kernel
theorem dX7_strangers_75 : decode cX7_strangers 75 = .ok (.iinc 4 1, 3) := by decide +kernel
theorem dX7_strangers_78 : decode cX7_strangers 78 = .ok (.goto (-37), 3) := by decide +kernel
theorem dX7_strangers_81 : decode cX7_strangers 81 = .ok (.iload_n 3, 1) := by decide +kernel
theorem dX7_strangers_82 : decode cX7_strangers 82 = .ok (.ireturn, 1) := by decide +kernel
set_option maxRecDepth 20000 in
theorem ggX7_keyOf_X7_requireBuilt : GoodIn wsX7_keyOf wsX7_requireBuilt := goodIn_ca (goodIn_r _ [6, 7, 8, 9, 30, 31, 32, 33, 34, 35, 36] (by decide +kernel) (by decide +kernel)) (goodIn_sub (fun _ h => List.mem_cons_of_mem _ (List.mem_append_left _ (List.mem_append_right _ h))) (by decide +kernel))
set_option maxRecDepth 20000 in
theorem gX7_keyOf_X7_requireBuilt : GoodIn wsX7_keyOf (wsV RX7 132 RX7 yX7_requireBuilt wsX7_requireBuilt) := goodIn_app (goodIn_of _ (by decide +kernel)) ggX7_keyOf_X7_requireBuilt
set_option maxRecDepth 20000 in
theorem ggX7_keyOf_X7_requireBelow : GoodIn wsX7_keyOf wsX7_requireBelow := goodIn_ca (goodIn_r _ [12, 13, 14] (by decide +kernel) (by decide +kernel)) (goodIn_sub (fun _ h => List.mem_cons_of_mem _ (List.mem_append_right _ h)) (by decide +kernel))
set_option maxRecDepth 20000 in
theorem gX7_keyOf_X7_requireBelow : GoodIn wsX7_keyOf (va_wsS RX7 86 yX7_requireBelow wsX7_requireBelow) := goodIn_app (goodIn_of _ (by decide +kernel)) ggX7_keyOf_X7_requireBelow
set_option maxRecDepth 20000 in
theorem ggX7_keyOf_X7_keyWithNumber : GoodIn wsX7_keyOf wsX7_keyWithNumber := goodIn_r _ [18, 1, 19, 20, 21, 22, 23, 24, 25, 26, 27, 28, 29, 30, 31, 32, 33, 34, 35, 36, 39, 40, 41, 42, 43, 44, 45, 46, 47, 48, 37, 38] (by decide +kernel) (by decide +kernel)
set_option maxRecDepth 20000 in
theorem gX7_keyOf_X7_keyWithNumber : GoodIn wsX7_keyOf (wsV RX7 143 RX7 yX7_keyWithNumber wsX7_keyWithNumber) := goodIn_app (goodIn_of _ (by decide +kernel)) ggX7_keyOf_X7_keyWithNumber
theorem dX7_keyOf_0 : decode cX7_keyOf 0 = .ok (.aload_n 0, 1) := by decide +kernel
theorem dX7_keyOf_1 : decode cX7_keyOf 1 = .ok (.invokevirtual 132, 3) := by decide +kernel
theorem dX7_keyOf_4 : decode cX7_keyOf 4 = .ok (.iload_n 1, 1) := by decide +kernel
theorem dX7_keyOf_5 : decode cX7_keyOf 5 = .ok (.aload_n 0, 1) := by decide +kernel
theorem dX7_keyOf_6 : decode cX7_keyOf 6 = .ok (.getfield 10, 3) := by decide +kernel
theorem dX7_keyOf_9 : decode cX7_keyOf 9 = .ok (.getfield 69, 3) := by decide +kernel
theorem dX7_keyOf_12 : decode cX7_keyOf 12 = .ok (.invokestatic 86, 3) := by decide +kernel
theorem dX7_keyOf_15 : decode cX7_keyOf 15 = .ok (.aload_n 0, 1) := by decide +kernel
theorem dX7_keyOf_16 : decode cX7_keyOf 16 = .ok (.iload_n 1, 1) := by decide +kernel
theorem dX7_keyOf_17 : decode cX7_keyOf 17 = .ok (.invokevirtual 143, 3) := by decide +kernel
theorem dX7_keyOf_20 : decode cX7_keyOf 20 = .ok (.ireturn, 1) := by decide +kernel
set_option maxRecDepth 20000 in
theorem ggX7_fingerprint_X7_requireBuilt : GoodIn wsX7_fingerprint wsX7_requireBuilt := goodIn_ca (goodIn_r _ [7, 8, 9, 10, 21, 22, 23, 24, 25, 26, 27] (by decide +kernel) (by decide +kernel)) (goodIn_sub (fun _ h => List.mem_cons_of_mem _ (List.mem_append_left _ (List.mem_append_right _ h))) (by decide +kernel))
set_option maxRecDepth 20000 in
theorem gX7_fingerprint_X7_requireBuilt : GoodIn wsX7_fingerprint (wsV RX7 132 RX7 yX7_requireBuilt wsX7_requireBuilt) := goodIn_app (goodIn_of _ (by decide +kernel)) ggX7_fingerprint_X7_requireBuilt
set_option maxRecDepth 20000 in
theorem ggX7_fingerprint_X7_requireBelow : GoodIn wsX7_fingerprint wsX7_requireBelow := goodIn_ca (goodIn_r _ [13, 14, 15] (by decide +kernel) (by decide +kernel)) (goodIn_sub (fun _ h => List.mem_cons_of_mem _ (List.mem_append_right _ h)) (by decide +kernel))
set_option maxRecDepth 20000 in
theorem gX7_fingerprint_X7_requireBelow : GoodIn wsX7_fingerprint (va_wsS RX7 86 yX7_requireBelow wsX7_requireBelow) := goodIn_app (goodIn_of _ (by decide +kernel)) ggX7_fingerprint_X7_requireBelow
set_option maxRecDepth 20000 in
theorem ggX7_fingerprint_X6_get : GoodIn wsX7_fingerprint wsX6_get := goodIn_r _ [19, 20, 30] (by decide +kernel) (by decide +kernel)
set_option maxRecDepth 20000 in
theorem gX7_fingerprint_X6_get_n146 : GoodIn wsX7_fingerprint (wsX6_get) := ggX7_fingerprint_X6_get
theorem dX7_fingerprint_0 : decode cX7_fingerprint 0 = .ok (.aload_n 0, 1) := by decide +kernel
theorem dX7_fingerprint_1 : decode cX7_fingerprint 1 = .ok (.invokevirtual 132, 3) := by decide +kernel
theorem dX7_fingerprint_4 : decode cX7_fingerprint 4 = .ok (.iload_n 1, 1) := by decide +kernel
theorem dX7_fingerprint_5 : decode cX7_fingerprint 5 = .ok (.aload_n 0, 1) := by decide +kernel
theorem dX7_fingerprint_6 : decode cX7_fingerprint 6 = .ok (.getfield 10, 3) := by decide +kernel
theorem dX7_fingerprint_9 : decode cX7_fingerprint 9 = .ok (.getfield 69, 3) := by decide +kernel
theorem dX7_fingerprint_12 : decode cX7_fingerprint 12 = .ok (.invokestatic 86, 3) := by decide +kernel
theorem dX7_fingerprint_15 : decode cX7_fingerprint 15 = .ok (.aload_n 0, 1) := by decide +kernel
theorem dX7_fingerprint_16 : decode cX7_fingerprint 16 = .ok (.getfield 42, 3) := by decide +kernel
theorem dX7_fingerprint_19 : decode cX7_fingerprint 19 = .ok (.iload_n 1, 1) := by decide +kernel
theorem dX7_fingerprint_20 : decode cX7_fingerprint 20 = .ok (.invokevirtual 146, 3) := by decide +kernel
theorem dX7_fingerprint_23 : decode cX7_fingerprint 23 = .ok (.ireturn, 1) := by decide +kernel
set_option maxRecDepth 20000 in
theorem ggX7_seed_X7_requireBuilt : GoodIn wsX7_seed wsX7_requireBuilt := goodIn_ca (goodIn_r _ [6, 7, 8, 9, 10, 11, 12, 13, 14, 15, 16] (by decide +kernel) (by decide +kernel)) (goodIn_sub (fun _ h => List.mem_cons_of_mem _ (List.mem_append_right _ h)) (by decide +kernel))
set_option maxRecDepth 20000 in
theorem gX7_seed_X7_requireBuilt : GoodIn wsX7_seed (wsV RX7 132 RX7 yX7_requireBuilt wsX7_requireBuilt) := goodIn_app (goodIn_of _ (by decide +kernel)) ggX7_seed_X7_requireBuilt
theorem dX7_seed_0 : decode cX7_seed 0 = .ok (.aload_n 0, 1) := by decide +kernel
theorem dX7_seed_1 : decode cX7_seed 1 = .ok (.invokevirtual 132, 3) := by decide +kernel
theorem dX7_seed_4 : decode cX7_seed 4 = .ok (.aload_n 0, 1) := by decide +kernel
theorem dX7_seed_5 : decode cX7_seed 5 = .ok (.getfield 19, 3) := by decide +kernel
theorem dX7_seed_8 : decode cX7_seed 8 = .ok (.getfield 129, 3) := by decide +kernel
theorem dX7_seed_11 : decode cX7_seed 11 = .ok (.ireturn, 1) := by decide +kernel
set_option maxRecDepth 20000 in
theorem ggX7_buckets_X7_requireBuilt : GoodIn wsX7_buckets wsX7_requireBuilt := goodIn_ca (goodIn_r _ [6, 7, 8, 9, 10, 11, 12, 13, 14, 15, 16] (by decide +kernel) (by decide +kernel)) (goodIn_sub (fun _ h => List.mem_cons_of_mem _ (List.mem_append_right _ h)) (by decide +kernel))
set_option maxRecDepth 20000 in
theorem gX7_buckets_X7_requireBuilt : GoodIn wsX7_buckets (wsV RX7 132 RX7 yX7_requireBuilt wsX7_requireBuilt) := goodIn_app (goodIn_of _ (by decide +kernel)) ggX7_buckets_X7_requireBuilt
theorem dX7_buckets_0 : decode cX7_buckets 0 = .ok (.aload_n 0, 1) := by decide +kernel
theorem dX7_buckets_1 : decode cX7_buckets 1 = .ok (.invokevirtual 132, 3) := by decide +kernel
theorem dX7_buckets_4 : decode cX7_buckets 4 = .ok (.aload_n 0, 1) := by decide +kernel
theorem dX7_buckets_5 : decode cX7_buckets 5 = .ok (.getfield 19, 3) := by decide +kernel
theorem dX7_buckets_8 : decode cX7_buckets 8 = .ok (.getfield 118, 3) := by decide +kernel
theorem dX7_buckets_11 : decode cX7_buckets 11 = .ok (.ireturn, 1) := by decide +kernel
set_option maxRecDepth 20000 in
theorem ggX7_inBucket_X7_requireBuilt : GoodIn wsX7_inBucket wsX7_requireBuilt := goodIn_ca (goodIn_r _ [6, 7, 8, 9, 33, 34, 35, 36, 37, 38, 39] (by decide +kernel) (by decide +kernel)) (goodIn_sub (fun _ h => List.mem_cons_of_mem _ (List.mem_append_left _ (List.mem_append_right _ h))) (by decide +kernel))
set_option maxRecDepth 20000 in
theorem gX7_inBucket_X7_requireBuilt : GoodIn wsX7_inBucket (wsV RX7 132 RX7 yX7_requireBuilt wsX7_requireBuilt) := goodIn_app (goodIn_of _ (by decide +kernel)) ggX7_inBucket_X7_requireBuilt
set_option maxRecDepth 20000 in
theorem ggX7_inBucket_X7_requireBelow : GoodIn wsX7_inBucket wsX7_requireBelow := goodIn_ca (goodIn_r _ [12, 13, 14] (by decide +kernel) (by decide +kernel)) (goodIn_sub (fun _ h => List.mem_cons_of_mem _ (List.mem_append_right _ h)) (by decide +kernel))
set_option maxRecDepth 20000 in
theorem gX7_inBucket_X7_requireBelow : GoodIn wsX7_inBucket (va_wsS RX7 86 yX7_requireBelow wsX7_requireBelow) := goodIn_app (goodIn_of _ (by decide +kernel)) ggX7_inBucket_X7_requireBelow
set_option maxRecDepth 20000 in
theorem ggX7_inBucket_X2_sizeOf : GoodIn wsX7_inBucket wsX2_sizeOf := goodIn_r _ [18, 19, 20, 21, 16, 22, 23, 24, 25, 26, 27, 28, 29, 30, 31, 32, 49, 50, 51, 52, 53, 54] (by decide +kernel) (by decide +kernel)
set_option maxRecDepth 20000 in
theorem gX7_inBucket_X2_sizeOf_n153 : GoodIn wsX7_inBucket (wsX2_sizeOf) := ggX7_inBucket_X2_sizeOf
theorem dX7_inBucket_0 : decode cX7_inBucket 0 = .ok (.aload_n 0, 1) := by decide +kernel
theorem dX7_inBucket_1 : decode cX7_inBucket 1 = .ok (.invokevirtual 132, 3) := by decide +kernel
theorem dX7_inBucket_4 : decode cX7_inBucket 4 = .ok (.iload_n 1, 1) := by decide +kernel
theorem dX7_inBucket_5 : decode cX7_inBucket 5 = .ok (.aload_n 0, 1) := by decide +kernel
theorem dX7_inBucket_6 : decode cX7_inBucket 6 = .ok (.getfield 19, 3) := by decide +kernel
theorem dX7_inBucket_9 : decode cX7_inBucket 9 = .ok (.getfield 118, 3) := by decide +kernel
theorem dX7_inBucket_12 : decode cX7_inBucket 12 = .ok (.invokestatic 86, 3) := by decide +kernel
theorem dX7_inBucket_15 : decode cX7_inBucket 15 = .ok (.aload_n 0, 1) := by decide +kernel
theorem dX7_inBucket_16 : decode cX7_inBucket 16 = .ok (.getfield 19, 3) := by decide +kernel
theorem dX7_inBucket_19 : decode cX7_inBucket 19 = .ok (.getfield 149, 3) := by decide +kernel
theorem dX7_inBucket_22 : decode cX7_inBucket 22 = .ok (.iload_n 1, 1) := by decide +kernel
theorem dX7_inBucket_23 : decode cX7_inBucket 23 = .ok (.invokevirtual 153, 3) := by decide +kernel
theorem dX7_inBucket_26 : decode cX7_inBucket 26 = .ok (.ireturn, 1) := by decide +kernel
set_option maxRecDepth 20000 in
theorem ggX7_displacement_X7_requireBuilt : GoodIn wsX7_displacement wsX7_requireBuilt := goodIn_ca (goodIn_r _ [6, 7, 8, 9, 20, 21, 22, 23, 24, 25, 26] (by decide +kernel) (by decide +kernel)) (goodIn_sub (fun _ h => List.mem_cons_of_mem _ (List.mem_append_left _ (List.mem_append_right _ h))) (by decide +kernel))
set_option maxRecDepth 20000 in
theorem gX7_displacement_X7_requireBuilt : GoodIn wsX7_displacement (wsV RX7 132 RX7 yX7_requireBuilt wsX7_requireBuilt) := goodIn_app (goodIn_of _ (by decide +kernel)) ggX7_displacement_X7_requireBuilt
set_option maxRecDepth 20000 in
theorem ggX7_displacement_X7_requireBelow : GoodIn wsX7_displacement wsX7_requireBelow := goodIn_ca (goodIn_r _ [12, 13, 14] (by decide +kernel) (by decide +kernel)) (goodIn_sub (fun _ h => List.mem_cons_of_mem _ (List.mem_append_right _ h)) (by decide +kernel))
set_option maxRecDepth 20000 in
theorem gX7_displacement_X7_requireBelow : GoodIn wsX7_displacement (va_wsS RX7 86 yX7_requireBelow wsX7_requireBelow) := goodIn_app (goodIn_of _ (by decide +kernel)) ggX7_displacement_X7_requireBelow
set_option maxRecDepth 20000 in
theorem ggX7_displacement_X6_get : GoodIn wsX7_displacement wsX6_get := goodIn_r _ [18, 19, 36] (by decide +kernel) (by decide +kernel)
set_option maxRecDepth 20000 in
theorem gX7_displacement_X6_get_n146 : GoodIn wsX7_displacement (wsX6_get) := ggX7_displacement_X6_get
theorem dX7_displacement_0 : decode cX7_displacement 0 = .ok (.aload_n 0, 1) := by decide +kernel
theorem dX7_displacement_1 : decode cX7_displacement 1 = .ok (.invokevirtual 132, 3) := by decide +kernel
theorem dX7_displacement_4 : decode cX7_displacement 4 = .ok (.iload_n 1, 1) := by decide +kernel
theorem dX7_displacement_5 : decode cX7_displacement 5 = .ok (.aload_n 0, 1) := by decide +kernel
theorem dX7_displacement_6 : decode cX7_displacement 6 = .ok (.getfield 19, 3) := by decide +kernel
theorem dX7_displacement_9 : decode cX7_displacement 9 = .ok (.getfield 118, 3) := by decide +kernel
theorem dX7_displacement_12 : decode cX7_displacement 12 = .ok (.invokestatic 86, 3) := by decide +kernel
theorem dX7_displacement_15 : decode cX7_displacement 15 = .ok (.aload_n 0, 1) := by decide +kernel
theorem dX7_displacement_16 : decode cX7_displacement 16 = .ok (.getfield 19, 3) := by decide +kernel
theorem dX7_displacement_19 : decode cX7_displacement 19 = .ok (.getfield 115, 3) := by decide +kernel
theorem dX7_displacement_22 : decode cX7_displacement 22 = .ok (.iload_n 1, 1) := by decide +kernel
theorem dX7_displacement_23 : decode cX7_displacement 23 = .ok (.invokevirtual 146, 3) := by decide +kernel
theorem dX7_displacement_26 : decode cX7_displacement 26 = .ok (.ireturn, 1) := by decide +kernel
set_option maxRecDepth 20000 in
theorem ggX7_width_X7_requireBuilt : GoodIn wsX7_width wsX7_requireBuilt := goodIn_ca (goodIn_r _ [6, 7, 8, 9, 10, 11, 12, 13, 14, 15, 16] (by decide +kernel) (by decide +kernel)) (goodIn_sub (fun _ h => List.mem_cons_of_mem _ (List.mem_append_right _ h)) (by decide +kernel))
set_option maxRecDepth 20000 in
theorem gX7_width_X7_requireBuilt : GoodIn wsX7_width (wsV RX7 132 RX7 yX7_requireBuilt wsX7_requireBuilt) := goodIn_app (goodIn_of _ (by decide +kernel)) ggX7_width_X7_requireBuilt
theorem dX7_width_0 : decode cX7_width 0 = .ok (.aload_n 0, 1) := by decide +kernel
theorem dX7_width_1 : decode cX7_width 1 = .ok (.invokevirtual 132, 3) := by decide +kernel
theorem dX7_width_4 : decode cX7_width 4 = .ok (.aload_n 0, 1) := by decide +kernel
theorem dX7_width_5 : decode cX7_width 5 = .ok (.getfield 26, 3) := by decide +kernel
theorem dX7_width_8 : decode cX7_width 8 = .ok (.getfield 158, 3) := by decide +kernel
theorem dX7_width_11 : decode cX7_width 11 = .ok (.ireturn, 1) := by decide +kernel
set_option maxRecDepth 20000 in
theorem ggX7_word_X7_requireBuilt : GoodIn wsX7_word wsX7_requireBuilt := goodIn_ca (goodIn_r _ [6, 7, 8, 9, 20, 21, 22, 23, 24, 25, 26] (by decide +kernel) (by decide +kernel)) (goodIn_sub (fun _ h => List.mem_cons_of_mem _ (List.mem_append_left _ (List.mem_append_right _ h))) (by decide +kernel))
set_option maxRecDepth 20000 in
theorem gX7_word_X7_requireBuilt : GoodIn wsX7_word (wsV RX7 132 RX7 yX7_requireBuilt wsX7_requireBuilt) := goodIn_app (goodIn_of _ (by decide +kernel)) ggX7_word_X7_requireBuilt
set_option maxRecDepth 20000 in
theorem ggX7_word_X7_requireBelow : GoodIn wsX7_word wsX7_requireBelow := goodIn_ca (goodIn_r _ [12, 13, 14] (by decide +kernel) (by decide +kernel)) (goodIn_sub (fun _ h => List.mem_cons_of_mem _ (List.mem_append_right _ h)) (by decide +kernel))
set_option maxRecDepth 20000 in
theorem gX7_word_X7_requireBelow : GoodIn wsX7_word (va_wsS RX7 86 yX7_requireBelow wsX7_requireBelow) := goodIn_app (goodIn_of _ (by decide +kernel)) ggX7_word_X7_requireBelow
set_option maxRecDepth 20000 in
theorem ggX7_word_X5_wordAt : GoodIn wsX7_word wsX5_wordAt := goodIn_r _ [18, 19, 27, 28, 29] (by decide +kernel) (by decide +kernel)
set_option maxRecDepth 20000 in
theorem gX7_word_X5_wordAt_n164 : GoodIn wsX7_word (wsX5_wordAt) := ggX7_word_X5_wordAt
theorem dX7_word_0 : decode cX7_word 0 = .ok (.aload_n 0, 1) := by decide +kernel
theorem dX7_word_1 : decode cX7_word 1 = .ok (.invokevirtual 132, 3) := by decide +kernel
theorem dX7_word_4 : decode cX7_word 4 = .ok (.iload_n 1, 1) := by decide +kernel
theorem dX7_word_5 : decode cX7_word 5 = .ok (.aload_n 0, 1) := by decide +kernel
theorem dX7_word_6 : decode cX7_word 6 = .ok (.getfield 26, 3) := by decide +kernel
theorem dX7_word_9 : decode cX7_word 9 = .ok (.getfield 161, 3) := by decide +kernel
theorem dX7_word_12 : decode cX7_word 12 = .ok (.invokestatic 86, 3) := by decide +kernel
theorem dX7_word_15 : decode cX7_word 15 = .ok (.aload_n 0, 1) := by decide +kernel
theorem dX7_word_16 : decode cX7_word 16 = .ok (.getfield 26, 3) := by decide +kernel
theorem dX7_word_19 : decode cX7_word 19 = .ok (.iload_n 1, 1) := by decide +kernel
theorem dX7_word_20 : decode cX7_word 20 = .ok (.invokevirtual 164, 3) := by decide +kernel
theorem dX7_word_23 : decode cX7_word 23 = .ok (.lreturn, 1) := by decide +kernel
set_option maxRecDepth 20000 in
theorem ggX7_byGraph_X7_requireKey : GoodIn wsX7_byGraph wsX7_requireKey := goodIn_ca (goodIn_r _ [5, 6, 7, 8] (by decide +kernel) (by decide +kernel)) (goodIn_sub (fun _ h => List.mem_cons_of_mem _ (List.mem_append_left _ (List.mem_append_right _ h))) (by decide +kernel))
set_option maxRecDepth 20000 in
theorem gX7_byGraph_X7_requireKey : GoodIn wsX7_byGraph (va_wsS RX7 46 yX7_requireKey wsX7_requireKey) := goodIn_app (goodIn_of _ (by decide +kernel)) ggX7_byGraph_X7_requireKey
set_option maxRecDepth 20000 in
theorem ggX7_byGraph_X7_requireBuilt : GoodIn wsX7_byGraph wsX7_requireBuilt := goodIn_ca (goodIn_r _ [12, 13, 14, 15, 45, 46, 47, 48, 49, 50, 51] (by decide +kernel) (by decide +kernel)) (goodIn_sub (fun _ h => List.mem_cons_of_mem _ (List.mem_append_right _ h)) (by decide +kernel))
set_option maxRecDepth 20000 in
theorem gX7_byGraph_X7_requireBuilt : GoodIn wsX7_byGraph (wsV RX7 132 RX7 yX7_requireBuilt wsX7_requireBuilt) := goodIn_app (goodIn_of _ (by decide +kernel)) ggX7_byGraph_X7_requireBuilt
set_option maxRecDepth 20000 in
theorem ggX7_byGraph_X1_sumFor : GoodIn wsX7_byGraph wsX1_sumFor := goodIn_r _ [19, 20, 21, 22, 23, 24, 25, 26, 17, 27, 28, 29, 30, 31, 32, 33, 34, 35, 36, 37, 38, 4, 39, 40, 41, 42, 43, 44, 52, 53, 54, 55, 56, 57, 58, 59, 60] (by decide +kernel) (by decide +kernel)
set_option maxRecDepth 20000 in
theorem gX7_byGraph_X1_sumFor_n168 : GoodIn wsX7_byGraph (wsX1_sumFor) := ggX7_byGraph_X1_sumFor
theorem dX7_byGraph_0 : decode cX7_byGraph 0 = .ok (.iload_n 1, 1) := by decide +kernel
theorem dX7_byGraph_1 : decode cX7_byGraph 1 = .ok (.invokestatic 46, 3) := by decide +kernel
theorem dX7_byGraph_4 : decode cX7_byGraph 4 = .ok (.aload_n 0, 1) := by decide +kernel
theorem dX7_byGraph_5 : decode cX7_byGraph 5 = .ok (.invokevirtual 132, 3) := by decide +kernel
theorem dX7_byGraph_8 : decode cX7_byGraph 8 = .ok (.aload_n 0, 1) := by decide +kernel
theorem dX7_byGraph_9 : decode cX7_byGraph 9 = .ok (.getfield 33, 3) := by decide +kernel
theorem dX7_byGraph_12 : decode cX7_byGraph 12 = .ok (.iload_n 1, 1) := by decide +kernel
theorem dX7_byGraph_13 : decode cX7_byGraph 13 = .ok (.invokevirtual 168, 3) := by decide +kernel
theorem dX7_byGraph_16 : decode cX7_byGraph 16 = .ok (.ireturn, 1) := by decide +kernel
set_option maxRecDepth 20000 in
theorem ggX7_graphSeed_X7_requireBuilt : GoodIn wsX7_graphSeed wsX7_requireBuilt := goodIn_ca (goodIn_r _ [6, 7, 8, 9, 10, 11, 12, 13, 14, 15, 16] (by decide +kernel) (by decide +kernel)) (goodIn_sub (fun _ h => List.mem_cons_of_mem _ (List.mem_append_right _ h)) (by decide +kernel))
set_option maxRecDepth 20000 in
theorem gX7_graphSeed_X7_requireBuilt : GoodIn wsX7_graphSeed (wsV RX7 132 RX7 yX7_requireBuilt wsX7_requireBuilt) := goodIn_app (goodIn_of _ (by decide +kernel)) ggX7_graphSeed_X7_requireBuilt
theorem dX7_graphSeed_0 : decode cX7_graphSeed 0 = .ok (.aload_n 0, 1) := by decide +kernel
theorem dX7_graphSeed_1 : decode cX7_graphSeed 1 = .ok (.invokevirtual 132, 3) := by decide +kernel
theorem dX7_graphSeed_4 : decode cX7_graphSeed 4 = .ok (.aload_n 0, 1) := by decide +kernel
theorem dX7_graphSeed_5 : decode cX7_graphSeed 5 = .ok (.getfield 33, 3) := by decide +kernel
theorem dX7_graphSeed_8 : decode cX7_graphSeed 8 = .ok (.getfield 171, 3) := by decide +kernel
theorem dX7_graphSeed_11 : decode cX7_graphSeed 11 = .ok (.ireturn, 1) := by decide +kernel
set_option maxRecDepth 20000 in
theorem ggX7_valueOf_X7_requireBuilt : GoodIn wsX7_valueOf wsX7_requireBuilt := goodIn_ca (goodIn_r _ [6, 7, 8, 9, 20, 21, 22, 23, 24, 25, 26] (by decide +kernel) (by decide +kernel)) (goodIn_sub (fun _ h => List.mem_cons_of_mem _ (List.mem_append_left _ (List.mem_append_right _ h))) (by decide +kernel))
set_option maxRecDepth 20000 in
theorem gX7_valueOf_X7_requireBuilt : GoodIn wsX7_valueOf (wsV RX7 132 RX7 yX7_requireBuilt wsX7_requireBuilt) := goodIn_app (goodIn_of _ (by decide +kernel)) ggX7_valueOf_X7_requireBuilt
set_option maxRecDepth 20000 in
theorem ggX7_valueOf_X7_requireBelow : GoodIn wsX7_valueOf wsX7_requireBelow := goodIn_ca (goodIn_r _ [12, 13, 14] (by decide +kernel) (by decide +kernel)) (goodIn_sub (fun _ h => List.mem_cons_of_mem _ (List.mem_append_right _ h)) (by decide +kernel))
set_option maxRecDepth 20000 in
theorem gX7_valueOf_X7_requireBelow : GoodIn wsX7_valueOf (va_wsS RX7 86 yX7_requireBelow wsX7_requireBelow) := goodIn_app (goodIn_of _ (by decide +kernel)) ggX7_valueOf_X7_requireBelow
set_option maxRecDepth 20000 in
theorem ggX7_valueOf_X6_get : GoodIn wsX7_valueOf wsX6_get := goodIn_r _ [18, 19, 35] (by decide +kernel) (by decide +kernel)
set_option maxRecDepth 20000 in
theorem gX7_valueOf_X6_get_n146 : GoodIn wsX7_valueOf (wsX6_get) := ggX7_valueOf_X6_get
theorem dX7_valueOf_0 : decode cX7_valueOf 0 = .ok (.aload_n 0, 1) := by decide +kernel
theorem dX7_valueOf_1 : decode cX7_valueOf 1 = .ok (.invokevirtual 132, 3) := by decide +kernel
theorem dX7_valueOf_4 : decode cX7_valueOf 4 = .ok (.iload_n 1, 1) := by decide +kernel
theorem dX7_valueOf_5 : decode cX7_valueOf 5 = .ok (.aload_n 0, 1) := by decide +kernel
theorem dX7_valueOf_6 : decode cX7_valueOf 6 = .ok (.getfield 33, 3) := by decide +kernel
theorem dX7_valueOf_9 : decode cX7_valueOf 9 = .ok (.getfield 172, 3) := by decide +kernel
theorem dX7_valueOf_12 : decode cX7_valueOf 12 = .ok (.invokestatic 86, 3) := by decide +kernel
theorem dX7_valueOf_15 : decode cX7_valueOf 15 = .ok (.aload_n 0, 1) := by decide +kernel
theorem dX7_valueOf_16 : decode cX7_valueOf 16 = .ok (.getfield 33, 3) := by decide +kernel
theorem dX7_valueOf_19 : decode cX7_valueOf 19 = .ok (.getfield 175, 3) := by decide +kernel
theorem dX7_valueOf_22 : decode cX7_valueOf 22 = .ok (.iload_n 1, 1) := by decide +kernel
theorem dX7_valueOf_23 : decode cX7_valueOf 23 = .ok (.invokevirtual 146, 3) := by decide +kernel
theorem dX7_valueOf_26 : decode cX7_valueOf 26 = .ok (.ireturn, 1) := by decide +kernel
theorem dX7_requireKey_0 : decode cX7_requireKey 0 = .ok (.iload_n 0, 1) := by decide +kernel
theorem dX7_requireKey_1 : decode cX7_requireKey 1 = .ok (.ifCond .lt 9, 3) := by decide +kernel
theorem dX7_requireKey_4 : decode cX7_requireKey 4 = .ok (.iload_n 0, 1) := by decide +kernel
theorem dX7_requireKey_5 : decode cX7_requireKey 5 = .ok (.ldc 178, 2) := by decide +kernel
theorem dX7_requireKey_7 : decode cX7_requireKey 7 = .ok (.if_icmp .le 13, 3) := by decide +kernel
theorem dX7_requireKey_10 : decode cX7_requireKey 10 = .ok (.new 94, 3) := by decide +kernel
theorem dX7_requireKey_13 : decode cX7_requireKey 13 = .ok (.dup, 1) := by decide +kernel
theorem dX7_requireKey_14 : decode cX7_requireKey 14 = .ok (.ldc 179, 2) := by decide +kernel
theorem dX7_requireKey_16 : decode cX7_requireKey 16 = .ok (.invokespecial 98, 3) := by decide +kernel
theorem dX7_requireKey_19 : decode cX7_requireKey 19 = .ok (.athrow, 1) := by decide +kernel
theorem dX7_requireKey_20 : decode cX7_requireKey 20 = .ok (.return_, 1) := by decide +kernel
set_option maxRecDepth 20000 in
theorem ggX7_requireLine_X7_requireKey : GoodIn wsX7_requireLine wsX7_requireKey := goodIn_ca (goodIn_r _ [6, 1, 2, 7] (by decide +kernel) (by decide +kernel)) (goodIn_sub (fun _ h => List.mem_cons_of_mem _ (List.mem_append_right _ h)) (by decide +kernel))
set_option maxRecDepth 20000 in
theorem gX7_requireLine_X7_requireKey : GoodIn wsX7_requireLine (va_wsS RX7 46 yX7_requireKey wsX7_requireKey) := goodIn_app (goodIn_of _ (by decide +kernel)) ggX7_requireLine_X7_requireKey
theorem dX7_requireLine_0 : decode cX7_requireLine 0 = .ok (.iload_n 0, 1) := by decide +kernel
theorem dX7_requireLine_1 : decode cX7_requireLine 1 = .ok (.invokestatic 46, 3) := by decide +kernel
theorem dX7_requireLine_4 : decode cX7_requireLine 4 = .ok (.iload_n 1, 1) := by decide +kernel
theorem dX7_requireLine_5 : decode cX7_requireLine 5 = .ok (.iconst 1, 1) := by decide +kernel
theorem dX7_requireLine_6 : decode cX7_requireLine 6 = .ok (.if_icmp .lt 10, 3) := by decide +kernel
theorem dX7_requireLine_9 : decode cX7_requireLine 9 = .ok (.iload_n 1, 1) := by decide +kernel
theorem dX7_requireLine_10 : decode cX7_requireLine 10 = .ok (.sipush 9999, 3) := by decide +kernel
theorem dX7_requireLine_13 : decode cX7_requireLine 13 = .ok (.if_icmp .le 13, 3) := by decide +kernel
theorem dX7_requireLine_16 : decode cX7_requireLine 16 = .ok (.new 94, 3) := by decide +kernel
theorem dX7_requireLine_19 : decode cX7_requireLine 19 = .ok (.dup, 1) := by decide +kernel
theorem dX7_requireLine_20 : decode cX7_requireLine 20 = .ok (.ldc 181, 2) := by decide +kernel
theorem dX7_requireLine_22 : decode cX7_requireLine 22 = .ok (.invokespecial 98, 3) := by decide +kernel
theorem dX7_requireLine_25 : decode cX7_requireLine 25 = .ok (.athrow, 1) := by decide +kernel
theorem dX7_requireLine_26 : decode cX7_requireLine 26 = .ok (.iload_n 2, 1) := by decide +kernel
theorem dX7_requireLine_27 : decode cX7_requireLine 27 = .ok (.iconst 1, 1) := by decide +kernel
theorem dX7_requireLine_28 : decode cX7_requireLine 28 = .ok (.if_icmp .lt 9, 3) := by decide +kernel
theorem dX7_requireLine_31 : decode cX7_requireLine 31 = .ok (.iload_n 2, 1) := by decide +kernel
theorem dX7_requireLine_32 : decode cX7_requireLine 32 = .ok (.bipush 40, 2) := by decide +kernel
theorem dX7_requireLine_34 : decode cX7_requireLine 34 = .ok (.if_icmp .le 13, 3) := by decide +kernel
theorem dX7_requireLine_37 : decode cX7_requireLine 37 = .ok (.new 94, 3) := by decide +kernel
theorem dX7_requireLine_40 : decode cX7_requireLine 40 = .ok (.dup, 1) := by decide +kernel
theorem dX7_requireLine_41 : decode cX7_requireLine 41 = .ok (.ldc 183, 2) := by decide +kernel
theorem dX7_requireLine_43 : decode cX7_requireLine 43 = .ok (.invokespecial 98, 3) := by decide +kernel
theorem dX7_requireLine_46 : decode cX7_requireLine 46 = .ok (.athrow, 1) := by decide +kernel
theorem dX7_requireLine_47 : decode cX7_requireLine 47 = .ok (.iload_n 0, 1) := by decide +kernel
theorem dX7_requireLine_48 : decode cX7_requireLine 48 = .ok (.iload_n 2, 1) := by decide +kernel
theorem dX7_requireLine_49 : decode cX7_requireLine 49 = .ok (.iconst 1, 1) := by decide +kernel
theorem dX7_requireLine_50 : decode cX7_requireLine 50 = .ok (.isub, 1) := by decide +kernel
theorem dX7_requireLine_51 : decode cX7_requireLine 51 = .ok (.iload_n 1, 1) := by decide +kernel
theorem dX7_requireLine_52 : decode cX7_requireLine 52 = .ok (.imul, 1) := by decide +kernel
theorem dX7_requireLine_53 : decode cX7_requireLine 53 = .ok (.iadd, 1) := by decide +kernel
theorem dX7_requireLine_54 : decode cX7_requireLine 54 = .ok (.invokestatic 46, 3) := by decide +kernel
theorem dX7_requireLine_57 : decode cX7_requireLine 57 = .ok (.return_, 1) := by decide +kernel
theorem dX7_requireBelow_0 : decode cX7_requireBelow 0 = .ok (.iload_n 0, 1) := by decide +kernel
theorem dX7_requireBelow_1 : decode cX7_requireBelow 1 = .ok (.ifCond .lt 8, 3) := by decide +kernel
theorem dX7_requireBelow_4 : decode cX7_requireBelow 4 = .ok (.iload_n 0, 1) := by decide +kernel
theorem dX7_requireBelow_5 : decode cX7_requireBelow 5 = .ok (.iload_n 1, 1) := by decide +kernel
theorem dX7_requireBelow_6 : decode cX7_requireBelow 6 = .ok (.if_icmp .lt 13, 3) := by decide +kernel
theorem dX7_requireBelow_9 : decode cX7_requireBelow 9 = .ok (.new 185, 3) := by decide +kernel
theorem dX7_requireBelow_12 : decode cX7_requireBelow 12 = .ok (.dup, 1) := by decide +kernel
theorem dX7_requireBelow_13 : decode cX7_requireBelow 13 = .ok (.ldc 187, 2) := by decide +kernel
theorem dX7_requireBelow_15 : decode cX7_requireBelow 15 = .ok (.invokespecial 189, 3) := by decide +kernel
theorem dX7_requireBelow_18 : decode cX7_requireBelow 18 = .ok (.athrow, 1) := by decide +kernel
theorem dX7_requireBelow_19 : decode cX7_requireBelow 19 = .ok (.return_, 1) := by decide +kernel
theorem dX7_requireRoomFor_0 : decode cX7_requireRoomFor 0 = .ok (.aload_n 0, 1) := by decide +kernel
theorem dX7_requireRoomFor_1 : decode cX7_requireRoomFor 1 = .ok (.getfield 10, 3) := by decide +kernel
theorem dX7_requireRoomFor_4 : decode cX7_requireRoomFor 4 = .ok (.getfield 69, 3) := by decide +kernel
theorem dX7_requireRoomFor_7 : decode cX7_requireRoomFor 7 = .ok (.iload_n 1, 1) := by decide +kernel
theorem dX7_requireRoomFor_8 : decode cX7_requireRoomFor 8 = .ok (.iadd, 1) := by decide +kernel
theorem dX7_requireRoomFor_9 : decode cX7_requireRoomFor 9 = .ok (.bipush 120, 2) := by decide +kernel
theorem dX7_requireRoomFor_11 : decode cX7_requireRoomFor 11 = .ok (.if_icmp .le 13, 3) := by decide +kernel
theorem dX7_requireRoomFor_14 : decode cX7_requireRoomFor 14 = .ok (.new 56, 3) := by decide +kernel
theorem dX7_requireRoomFor_17 : decode cX7_requireRoomFor 17 = .ok (.dup, 1) := by decide +kernel
theorem dX7_requireRoomFor_18 : decode cX7_requireRoomFor 18 = .ok (.ldc 190, 2) := by decide +kernel
theorem dX7_requireRoomFor_20 : decode cX7_requireRoomFor 20 = .ok (.invokespecial 60, 3) := by decide +kernel
theorem dX7_requireRoomFor_23 : decode cX7_requireRoomFor 23 = .ok (.athrow, 1) := by decide +kernel
theorem dX7_requireRoomFor_24 : decode cX7_requireRoomFor 24 = .ok (.return_, 1) := by decide +kernel
theorem dX7_requireOpen_0 : decode cX7_requireOpen 0 = .ok (.aload_n 0, 1) := by decide +kernel
theorem dX7_requireOpen_1 : decode cX7_requireOpen 1 = .ok (.getfield 125, 3) := by decide +kernel
theorem dX7_requireOpen_4 : decode cX7_requireOpen 4 = .ok (.ifCond .eq 13, 3) := by decide +kernel
theorem dX7_requireOpen_7 : decode cX7_requireOpen 7 = .ok (.new 56, 3) := by decide +kernel
theorem dX7_requireOpen_10 : decode cX7_requireOpen 10 = .ok (.dup, 1) := by decide +kernel
theorem dX7_requireOpen_11 : decode cX7_requireOpen 11 = .ok (.ldc 192, 2) := by decide +kernel
theorem dX7_requireOpen_13 : decode cX7_requireOpen 13 = .ok (.invokespecial 60, 3) := by decide +kernel
theorem dX7_requireOpen_16 : decode cX7_requireOpen 16 = .ok (.athrow, 1) := by decide +kernel
theorem dX7_requireOpen_17 : decode cX7_requireOpen 17 = .ok (.return_, 1) := by decide +kernel
theorem dX7_requireBuilt_0 : decode cX7_requireBuilt 0 = .ok (.aload_n 0, 1) := by decide +kernel
theorem dX7_requireBuilt_1 : decode cX7_requireBuilt 1 = .ok (.getfield 125, 3) := by decide +kernel
theorem dX7_requireBuilt_4 : decode cX7_requireBuilt 4 = .ok (.ifCond .ne 13, 3) := by decide +kernel
theorem dX7_requireBuilt_7 : decode cX7_requireBuilt 7 = .ok (.new 56, 3) := by decide +kernel
theorem dX7_requireBuilt_10 : decode cX7_requireBuilt 10 = .ok (.dup, 1) := by decide +kernel
theorem dX7_requireBuilt_11 : decode cX7_requireBuilt 11 = .ok (.ldc 194, 2) := by decide +kernel
theorem dX7_requireBuilt_13 : decode cX7_requireBuilt 13 = .ok (.invokespecial 60, 3) := by decide +kernel
theorem dX7_requireBuilt_16 : decode cX7_requireBuilt 16 = .ok (.athrow, 1) := by decide +kernel
theorem dX7_requireBuilt_17 : decode cX7_requireBuilt 17 = .ok (.return_, 1) := by decide +kernel
set_option maxRecDepth 20000 in
theorem ggX7_newInLine_X4_holds : GoodIn wsX7_newInLine wsX4_holds := goodIn_r _ [5, 6, 7, 8, 9, 10, 3, 11, 12, 13, 14, 15, 16, 24, 25, 26] (by decide +kernel) (by decide +kernel)
set_option maxRecDepth 20000 in
theorem gX7_newInLine_X4_holds_n52 : GoodIn wsX7_newInLine (wsX4_holds) := ggX7_newInLine_X4_holds
theorem dX7_newInLine_0 : decode cX7_newInLine 0 = .ok (.iconst 0, 1) := by decide +kernel
theorem dX7_newInLine_1 : decode cX7_newInLine 1 = .ok (.istore 4, 2) := by decide +kernel
theorem dX7_newInLine_3 : decode cX7_newInLine 3 = .ok (.iconst 0, 1) := by decide +kernel
theorem dX7_newInLine_4 : decode cX7_newInLine 4 = .ok (.istore 5, 2) := by decide +kernel
theorem dX7_newInLine_6 : decode cX7_newInLine 6 = .ok (.iload 5, 2) := by decide +kernel
theorem dX7_newInLine_8 : decode cX7_newInLine 8 = .ok (.iload_n 3, 1) := by decide +kernel
theorem dX7_newInLine_9 : decode cX7_newInLine 9 = .ok (.if_icmp .ge 28, 3) := by decide +kernel
theorem dX7_newInLine_12 : decode cX7_newInLine 12 = .ok (.aload_n 0, 1) := by decide +kernel
theorem dX7_newInLine_13 : decode cX7_newInLine 13 = .ok (.getfield 10, 3) := by decide +kernel
theorem dX7_newInLine_16 : decode cX7_newInLine 16 = .ok (.iload_n 1, 1) := by decide +kernel
theorem dX7_newInLine_17 : decode cX7_newInLine 17 = .ok (.iload 5, 2) := by decide +kernel
theorem dX7_newInLine_19 : decode cX7_newInLine 19 = .ok (.iload_n 2, 1) := by decide +kernel
theorem dX7_newInLine_20 : decode cX7_newInLine 20 = .ok (.imul, 1) := by decide +kernel
theorem dX7_newInLine_21 : decode cX7_newInLine 21 = .ok (.iadd, 1) := by decide +kernel
theorem dX7_newInLine_22 : decode cX7_newInLine 22 = .ok (.invokevirtual 52, 3) := by decide +kernel
theorem dX7_newInLine_25 : decode cX7_newInLine 25 = .ok (.ifCond .ne 6, 3) := by decide +kernel
theorem dX7_newInLine_28 : decode cX7_newInLine 28 = .ok (.iinc 4 1, 3) := by decide +kernel
theorem dX7_newInLine_31 : decode cX7_newInLine 31 = .ok (.iinc 5 1, 3) := by decide +kernel
theorem dX7_newInLine_34 : decode cX7_newInLine 34 = .ok (.goto (-28), 3) := by decide +kernel
theorem dX7_newInLine_37 : decode cX7_newInLine 37 = .ok (.iload 4, 2) := by decide +kernel
theorem dX7_newInLine_39 : decode cX7_newInLine 39 = .ok (.ireturn, 1) := by decide +kernel
set_option maxRecDepth 20000 in
theorem ggX7_keepFingerprints_X7_keyWithNumber : GoodIn wsX7_keepFingerprints wsX7_keyWithNumber := goodIn_r _ [8, 2, 9, 10, 11, 12, 13, 14, 15, 16, 17, 18, 19, 36, 37, 38, 39, 40, 41, 42, 45, 46, 47, 48, 49, 50, 51, 52, 53, 54, 43, 44] (by decide +kernel) (by decide +kernel)
set_option maxRecDepth 20000 in
theorem gX7_keepFingerprints_X7_keyWithNumber : GoodIn wsX7_keepFingerprints (wsV RX7 143 RX7 yX7_keyWithNumber wsX7_keyWithNumber) := goodIn_app (goodIn_of _ (by decide +kernel)) ggX7_keepFingerprints_X7_keyWithNumber
set_option maxRecDepth 20000 in
theorem ggX7_keepFingerprints_X7_fingerprintOf : GoodIn wsX7_keepFingerprints wsX7_fingerprintOf := goodIn_r _ [23, 24, 9, 1, 25, 26, 27, 28, 29, 30, 31, 32, 36, 37, 38, 39, 40, 41, 42, 45, 46, 47, 48, 49, 50, 51, 52, 53] (by decide +kernel) (by decide +kernel)
set_option maxRecDepth 20000 in
theorem gX7_keepFingerprints_X7_fingerprintOf : GoodIn wsX7_keepFingerprints (wsV RX7 199 RX7 yX7_fingerprintOf wsX7_fingerprintOf) := goodIn_app (goodIn_of _ (by decide +kernel)) ggX7_keepFingerprints_X7_fingerprintOf
set_option maxRecDepth 20000 in
theorem ggX7_keepFingerprints_X6_set : GoodIn wsX7_keepFingerprints wsX6_set := goodIn_r _ [35, 14, 54] (by decide +kernel) (by decide +kernel)
set_option maxRecDepth 20000 in
theorem gX7_keepFingerprints_X6_set_n202 : GoodIn wsX7_keepFingerprints (wsX6_set) := ggX7_keepFingerprints_X6_set
theorem dX7_keepFingerprints_0 : decode cX7_keepFingerprints 0 = .ok (.aload_n 0, 1) := by decide +kernel
theorem dX7_keepFingerprints_1 : decode cX7_keepFingerprints 1 = .ok (.iconst 1, 1) := by decide +kernel
theorem dX7_keepFingerprints_2 : decode cX7_keepFingerprints 2 = .ok (.iload_n 1, 1) := by decide +kernel
theorem dX7_keepFingerprints_3 : decode cX7_keepFingerprints 3 = .ok (.ishl, 1) := by decide +kernel
theorem dX7_keepFingerprints_4 : decode cX7_keepFingerprints 4 = .ok (.iconst 1, 1) := by decide +kernel
theorem dX7_keepFingerprints_5 : decode cX7_keepFingerprints 5 = .ok (.isub, 1) := by decide +kernel
theorem dX7_keepFingerprints_6 : decode cX7_keepFingerprints 6 = .ok (.putfield 196, 3) := by decide +kernel
theorem dX7_keepFingerprints_9 : decode cX7_keepFingerprints 9 = .ok (.iconst 0, 1) := by decide +kernel
theorem dX7_keepFingerprints_10 : decode cX7_keepFingerprints 10 = .ok (.istore_n 2, 1) := by decide +kernel
theorem dX7_keepFingerprints_11 : decode cX7_keepFingerprints 11 = .ok (.iload_n 2, 1) := by decide +kernel
theorem dX7_keepFingerprints_12 : decode cX7_keepFingerprints 12 = .ok (.aload_n 0, 1) := by decide +kernel
theorem dX7_keepFingerprints_13 : decode cX7_keepFingerprints 13 = .ok (.getfield 10, 3) := by decide +kernel
theorem dX7_keepFingerprints_16 : decode cX7_keepFingerprints 16 = .ok (.getfield 69, 3) := by decide +kernel
theorem dX7_keepFingerprints_19 : decode cX7_keepFingerprints 19 = .ok (.if_icmp .ge 26, 3) := by decide +kernel
theorem dX7_keepFingerprints_22 : decode cX7_keepFingerprints 22 = .ok (.aload_n 0, 1) := by decide +kernel
theorem dX7_keepFingerprints_23 : decode cX7_keepFingerprints 23 = .ok (.getfield 42, 3) := by decide +kernel
theorem dX7_keepFingerprints_26 : decode cX7_keepFingerprints 26 = .ok (.iload_n 2, 1) := by decide +kernel
theorem dX7_keepFingerprints_27 : decode cX7_keepFingerprints 27 = .ok (.aload_n 0, 1) := by decide +kernel
theorem dX7_keepFingerprints_28 : decode cX7_keepFingerprints 28 = .ok (.aload_n 0, 1) := by decide +kernel
theorem dX7_keepFingerprints_29 : decode cX7_keepFingerprints 29 = .ok (.iload_n 2, 1) := by decide +kernel
theorem dX7_keepFingerprints_30 : decode cX7_keepFingerprints 30 = .ok (.invokevirtual 143, 3) := by decide +kernel
theorem dX7_keepFingerprints_33 : decode cX7_keepFingerprints 33 = .ok (.invokevirtual 199, 3) := by decide +kernel
theorem dX7_keepFingerprints_36 : decode cX7_keepFingerprints 36 = .ok (.invokevirtual 202, 3) := by decide +kernel
theorem dX7_keepFingerprints_39 : decode cX7_keepFingerprints 39 = .ok (.iinc 2 1, 3) := by decide +kernel
theorem dX7_keepFingerprints_42 : decode cX7_keepFingerprints 42 = .ok (.goto (-31), 3) := by decide +kernel
theorem dX7_keepFingerprints_45 : decode cX7_keepFingerprints 45 = .ok (.return_, 1) := by decide +kernel
set_option maxRecDepth 20000 in
theorem ggX7_fingerprintOf_X3_of : GoodIn wsX7_fingerprintOf wsX3_of := goodIn_r _ [7, 8, 9, 10, 11] (by decide +kernel) (by decide +kernel)
set_option maxRecDepth 20000 in
theorem gX7_fingerprintOf_X3_of_n211 : GoodIn wsX7_fingerprintOf (wsX3_of) := ggX7_fingerprintOf_X3_of
theorem dX7_fingerprintOf_0 : decode cX7_fingerprintOf 0 = .ok (.getstatic 205, 3) := by decide +kernel
theorem dX7_fingerprintOf_3 : decode cX7_fingerprintOf 3 = .ok (.iload_n 1, 1) := by decide +kernel
theorem dX7_fingerprintOf_4 : decode cX7_fingerprintOf 4 = .ok (.aload_n 0, 1) := by decide +kernel
theorem dX7_fingerprintOf_5 : decode cX7_fingerprintOf 5 = .ok (.getfield 19, 3) := by decide +kernel
theorem dX7_fingerprintOf_8 : decode cX7_fingerprintOf 8 = .ok (.getfield 129, 3) := by decide +kernel
theorem dX7_fingerprintOf_11 : decode cX7_fingerprintOf 11 = .ok (.invokevirtual 211, 3) := by decide +kernel
theorem dX7_fingerprintOf_14 : decode cX7_fingerprintOf 14 = .ok (.aload_n 0, 1) := by decide +kernel
theorem dX7_fingerprintOf_15 : decode cX7_fingerprintOf 15 = .ok (.getfield 196, 3) := by decide +kernel
theorem dX7_fingerprintOf_18 : decode cX7_fingerprintOf 18 = .ok (.iand, 1) := by decide +kernel
theorem dX7_fingerprintOf_19 : decode cX7_fingerprintOf 19 = .ok (.ireturn, 1) := by decide +kernel
set_option maxRecDepth 20000 in
theorem ggX7_keyWithNumber_X6_get : GoodIn wsX7_keyWithNumber wsX6_get := goodIn_r _ [6, 7, 29] (by decide +kernel) (by decide +kernel)
set_option maxRecDepth 20000 in
theorem gX7_keyWithNumber_X6_get_n146 : GoodIn wsX7_keyWithNumber (wsX6_get) := ggX7_keyWithNumber_X6_get
set_option maxRecDepth 20000 in
theorem ggX7_keyWithNumber_X4_at : GoodIn wsX7_keyWithNumber wsX4_at := goodIn_r _ [11, 12, 3, 4, 5, 6, 7, 30, 31, 29] (by decide +kernel) (by decide +kernel)
set_option maxRecDepth 20000 in
theorem gX7_keyWithNumber_X4_at_n90 : GoodIn wsX7_keyWithNumber (wsX4_at) := ggX7_keyWithNumber_X4_at
theorem dX7_keyWithNumber_0 : decode cX7_keyWithNumber 0 = .ok (.aload_n 0, 1) := by decide +kernel
theorem dX7_keyWithNumber_1 : decode cX7_keyWithNumber 1 = .ok (.getfield 10, 3) := by decide +kernel
theorem dX7_keyWithNumber_4 : decode cX7_keyWithNumber 4 = .ok (.aload_n 0, 1) := by decide +kernel
theorem dX7_keyWithNumber_5 : decode cX7_keyWithNumber 5 = .ok (.getfield 19, 3) := by decide +kernel
theorem dX7_keyWithNumber_8 : decode cX7_keyWithNumber 8 = .ok (.getfield 215, 3) := by decide +kernel
theorem dX7_keyWithNumber_11 : decode cX7_keyWithNumber 11 = .ok (.iload_n 1, 1) := by decide +kernel
theorem dX7_keyWithNumber_12 : decode cX7_keyWithNumber 12 = .ok (.invokevirtual 146, 3) := by decide +kernel
theorem dX7_keyWithNumber_15 : decode cX7_keyWithNumber 15 = .ok (.invokevirtual 90, 3) := by decide +kernel
theorem dX7_keyWithNumber_18 : decode cX7_keyWithNumber 18 = .ok (.ireturn, 1) := by decide +kernel
set_option maxRecDepth 20000 in
theorem ggX7_lookUp_X0_numberOf : GoodIn wsX7_lookUp wsX0_numberOf := goodIn_r _ [6, 7, 8, 9, 10, 11, 12, 13, 4, 14, 15, 16, 17, 18, 19, 20, 21, 22, 23, 24, 25, 26, 27, 28, 29, 30, 31, 32, 33, 34, 35, 36, 37, 51, 52, 53, 54, 55, 56, 57, 58, 59, 60] (by decide +kernel) (by decide +kernel)
set_option maxRecDepth 20000 in
theorem gX7_lookUp_X0_numberOf_n135 : GoodIn wsX7_lookUp (wsX0_numberOf) := ggX7_lookUp_X0_numberOf
set_option maxRecDepth 20000 in
theorem ggX7_lookUp_X6_get : GoodIn wsX7_lookUp wsX6_get := goodIn_r _ [31, 32, 60] (by decide +kernel) (by decide +kernel)
set_option maxRecDepth 20000 in
theorem gX7_lookUp_X6_get_n146 : GoodIn wsX7_lookUp (wsX6_get) := ggX7_lookUp_X6_get
set_option maxRecDepth 20000 in
theorem ggX7_lookUp_X7_fingerprintOf : GoodIn wsX7_lookUp wsX7_fingerprintOf := goodIn_r _ [41, 42, 1, 43, 17, 18, 19, 20, 21, 22, 23, 24, 44, 45, 46, 47, 48, 49, 50, 51, 52, 53, 54, 55, 56, 57, 58, 59] (by decide +kernel) (by decide +kernel)
set_option maxRecDepth 20000 in
theorem gX7_lookUp_X7_fingerprintOf : GoodIn wsX7_lookUp (wsV RX7 199 RX7 yX7_fingerprintOf wsX7_fingerprintOf) := goodIn_app (goodIn_of _ (by decide +kernel)) ggX7_lookUp_X7_fingerprintOf
theorem dX7_lookUp_0 : decode cX7_lookUp 0 = .ok (.aload_n 0, 1) := by decide +kernel
theorem dX7_lookUp_1 : decode cX7_lookUp 1 = .ok (.getfield 19, 3) := by decide +kernel
theorem dX7_lookUp_4 : decode cX7_lookUp 4 = .ok (.iload_n 1, 1) := by decide +kernel
theorem dX7_lookUp_5 : decode cX7_lookUp 5 = .ok (.invokevirtual 135, 3) := by decide +kernel
theorem dX7_lookUp_8 : decode cX7_lookUp 8 = .ok (.istore_n 2, 1) := by decide +kernel
theorem dX7_lookUp_9 : decode cX7_lookUp 9 = .ok (.aload_n 0, 1) := by decide +kernel
theorem dX7_lookUp_10 : decode cX7_lookUp 10 = .ok (.getfield 42, 3) := by decide +kernel
theorem dX7_lookUp_13 : decode cX7_lookUp 13 = .ok (.iload_n 2, 1) := by decide +kernel
theorem dX7_lookUp_14 : decode cX7_lookUp 14 = .ok (.invokevirtual 146, 3) := by decide +kernel
theorem dX7_lookUp_17 : decode cX7_lookUp 17 = .ok (.aload_n 0, 1) := by decide +kernel
theorem dX7_lookUp_18 : decode cX7_lookUp 18 = .ok (.iload_n 1, 1) := by decide +kernel
theorem dX7_lookUp_19 : decode cX7_lookUp 19 = .ok (.invokevirtual 199, 3) := by decide +kernel
theorem dX7_lookUp_22 : decode cX7_lookUp 22 = .ok (.if_icmp .ne 7, 3) := by decide +kernel
theorem dX7_lookUp_25 : decode cX7_lookUp 25 = .ok (.iload_n 2, 1) := by decide +kernel
theorem dX7_lookUp_26 : decode cX7_lookUp 26 = .ok (.goto 4, 3) := by decide +kernel
theorem dX7_lookUp_29 : decode cX7_lookUp 29 = .ok (.iconst (-1), 1) := by decide +kernel
theorem dX7_lookUp_30 : decode cX7_lookUp 30 = .ok (.ireturn, 1) := by decide +kernel
theorem dX7_remainder_0 : decode cX7_remainder 0 = .ok (.iload_n 1, 1) := by decide +kernel
theorem dX7_remainder_1 : decode cX7_remainder 1 = .ok (.ifCond .le 9, 3) := by decide +kernel
theorem dX7_remainder_4 : decode cX7_remainder 4 = .ok (.iload_n 0, 1) := by decide +kernel
theorem dX7_remainder_5 : decode cX7_remainder 5 = .ok (.iload_n 1, 1) := by decide +kernel
theorem dX7_remainder_6 : decode cX7_remainder 6 = .ok (.irem, 1) := by decide +kernel
theorem dX7_remainder_7 : decode cX7_remainder 7 = .ok (.goto 4, 3) := by decide +kernel
theorem dX7_remainder_10 : decode cX7_remainder 10 = .ok (.iconst 0, 1) := by decide +kernel
theorem dX7_remainder_11 : decode cX7_remainder 11 = .ok (.ireturn, 1) := by decide +kernel
theorem dX7_dividedUp_0 : decode cX7_dividedUp 0 = .ok (.iload_n 1, 1) := by decide +kernel
theorem dX7_dividedUp_1 : decode cX7_dividedUp 1 = .ok (.ifCond .le 13, 3) := by decide +kernel
theorem dX7_dividedUp_4 : decode cX7_dividedUp 4 = .ok (.iload_n 0, 1) := by decide +kernel
theorem dX7_dividedUp_5 : decode cX7_dividedUp 5 = .ok (.iload_n 1, 1) := by decide +kernel
theorem dX7_dividedUp_6 : decode cX7_dividedUp 6 = .ok (.iadd, 1) := by decide +kernel
theorem dX7_dividedUp_7 : decode cX7_dividedUp 7 = .ok (.iconst 1, 1) := by decide +kernel
theorem dX7_dividedUp_8 : decode cX7_dividedUp 8 = .ok (.isub, 1) := by decide +kernel
theorem dX7_dividedUp_9 : decode cX7_dividedUp 9 = .ok (.iload_n 1, 1) := by decide +kernel
theorem dX7_dividedUp_10 : decode cX7_dividedUp 10 = .ok (.idiv, 1) := by decide +kernel
theorem dX7_dividedUp_11 : decode cX7_dividedUp 11 = .ok (.goto 4, 3) := by decide +kernel
theorem dX7_dividedUp_14 : decode cX7_dividedUp 14 = .ok (.iconst 0, 1) := by decide +kernel
theorem dX7_dividedUp_15 : decode cX7_dividedUp 15 = .ok (.ireturn, 1) := by decide +kernel
theorem dX8_init_0 : decode cX8_init 0 = .ok (.aload_n 0, 1) := by decide +kernel
theorem dX8_init_1 : decode cX8_init 1 = .ok (.invokespecial 1, 3) := by decide +kernel
theorem dX8_init_4 : decode cX8_init 4 = .ok (.aload_n 0, 1) := by decide +kernel
theorem dX8_init_5 : decode cX8_init 5 = .ok (.bipush 120, 2) := by decide +kernel
theorem dX8_init_7 : decode cX8_init 7 = .ok (.newarray .int, 2) := by decide +kernel
theorem dX8_init_9 : decode cX8_init 9 = .ok (.putfield 7, 3) := by decide +kernel
theorem dX8_init_12 : decode cX8_init 12 = .ok (.aload_n 0, 1) := by decide +kernel
theorem dX8_init_13 : decode cX8_init 13 = .ok (.bipush 120, 2) := by decide +kernel
theorem dX8_init_15 : decode cX8_init 15 = .ok (.newarray .int, 2) := by decide +kernel
theorem dX8_init_17 : decode cX8_init 17 = .ok (.putfield 13, 3) := by decide +kernel
theorem dX8_init_20 : decode cX8_init 20 = .ok (.aload_n 0, 1) := by decide +kernel
theorem dX8_init_21 : decode cX8_init 21 = .ok (.bipush 120, 2) := by decide +kernel
theorem dX8_init_23 : decode cX8_init 23 = .ok (.newarray .int, 2) := by decide +kernel
theorem dX8_init_25 : decode cX8_init 25 = .ok (.putfield 16, 3) := by decide +kernel
theorem dX8_init_28 : decode cX8_init 28 = .ok (.aload_n 0, 1) := by decide +kernel
theorem dX8_init_29 : decode cX8_init 29 = .ok (.bipush 120, 2) := by decide +kernel
theorem dX8_init_31 : decode cX8_init 31 = .ok (.newarray .int, 2) := by decide +kernel
theorem dX8_init_33 : decode cX8_init 33 = .ok (.putfield 19, 3) := by decide +kernel
theorem dX8_init_36 : decode cX8_init 36 = .ok (.aload_n 0, 1) := by decide +kernel
theorem dX8_init_37 : decode cX8_init 37 = .ok (.bipush 120, 2) := by decide +kernel
theorem dX8_init_39 : decode cX8_init 39 = .ok (.newarray .int, 2) := by decide +kernel
theorem dX8_init_41 : decode cX8_init 41 = .ok (.putfield 22, 3) := by decide +kernel
theorem dX8_init_44 : decode cX8_init 44 = .ok (.aload_n 0, 1) := by decide +kernel
theorem dX8_init_45 : decode cX8_init 45 = .ok (.bipush 120, 2) := by decide +kernel
theorem dX8_init_47 : decode cX8_init 47 = .ok (.newarray .int, 2) := by decide +kernel
theorem dX8_init_49 : decode cX8_init 49 = .ok (.putfield 25, 3) := by decide +kernel
theorem dX8_init_52 : decode cX8_init 52 = .ok (.aload_n 0, 1) := by decide +kernel
theorem dX8_init_53 : decode cX8_init 53 = .ok (.bipush 120, 2) := by decide +kernel
theorem dX8_init_55 : decode cX8_init 55 = .ok (.newarray .int, 2) := by decide +kernel
theorem dX8_init_57 : decode cX8_init 57 = .ok (.putfield 28, 3) := by decide +kernel
theorem dX8_init_60 : decode cX8_init 60 = .ok (.aload_n 0, 1) := by decide +kernel
theorem dX8_init_61 : decode cX8_init 61 = .ok (.bipush 120, 2) := by decide +kernel
theorem dX8_init_63 : decode cX8_init 63 = .ok (.newarray .int, 2) := by decide +kernel
theorem dX8_init_65 : decode cX8_init 65 = .ok (.putfield 31, 3) := by decide +kernel
theorem dX8_init_68 : decode cX8_init 68 = .ok (.aload_n 0, 1) := by decide +kernel
theorem dX8_init_69 : decode cX8_init 69 = .ok (.bipush 20, 2) := by decide +kernel
theorem dX8_init_71 : decode cX8_init 71 = .ok (.newarray .long, 2) := by decide +kernel
theorem dX8_init_73 : decode cX8_init 73 = .ok (.putfield 34, 3) := by decide +kernel
theorem dX8_init_76 : decode cX8_init 76 = .ok (.aload_n 0, 1) := by decide +kernel
theorem dX8_init_77 : decode cX8_init 77 = .ok (.sipush 360, 3) := by decide +kernel
theorem dX8_init_80 : decode cX8_init 80 = .ok (.newarray .int, 2) := by decide +kernel
theorem dX8_init_82 : decode cX8_init 82 = .ok (.putfield 38, 3) := by decide +kernel
theorem dX8_init_85 : decode cX8_init 85 = .ok (.aload_n 0, 1) := by decide +kernel
theorem dX8_init_86 : decode cX8_init 86 = .ok (.sipush 360, 3) := by decide +kernel
theorem dX8_init_89 : decode cX8_init 89 = .ok (.newarray .int, 2) := by decide +kernel
theorem dX8_init_91 : decode cX8_init 91 = .ok (.putfield 41, 3) := by decide +kernel
theorem dX8_init_94 : decode cX8_init 94 = .ok (.aload_n 0, 1) := by decide +kernel
theorem dX8_init_95 : decode cX8_init 95 = .ok (.sipush 240, 3) := by decide +kernel
theorem dX8_init_98 : decode cX8_init 98 = .ok (.newarray .int, 2) := by decide +kernel
theorem dX8_init_100 : decode cX8_init 100 = .ok (.putfield 44, 3) := by decide +kernel
theorem dX8_init_103 : decode cX8_init 103 = .ok (.return_, 1) := by decide +kernel
theorem dX8_thrown_0 : decode cX8_thrown 0 = .ok (.aload_n 0, 1) := by decide +kernel
theorem dX8_thrown_1 : decode cX8_thrown 1 = .ok (.getfield 47, 3) := by decide +kernel
theorem dX8_thrown_4 : decode cX8_thrown 4 = .ok (.ireturn, 1) := by decide +kernel
theorem dX8_fails_0 : decode cX8_fails 0 = .ok (.aload_n 0, 1) := by decide +kernel
theorem dX8_fails_1 : decode cX8_fails 1 = .ok (.iload_n 1, 1) := by decide +kernel
theorem dX8_fails_2 : decode cX8_fails 2 = .ok (.putfield 47, 3) := by decide +kernel
theorem dX8_fails_5 : decode cX8_fails 5 = .ok (.iconst 0, 1) := by decide +kernel
theorem dX8_fails_6 : decode cX8_fails 6 = .ok (.ireturn, 1) := by decide +kernel
theorem dX8_in_0 : decode cX8_in 0 = .ok (.iload_n 0, 1) := by decide +kernel
theorem dX8_in_1 : decode cX8_in 1 = .ok (.iload_n 1, 1) := by decide +kernel
theorem dX8_in_2 : decode cX8_in 2 = .ok (.if_icmp .lt 12, 3) := by decide +kernel
theorem dX8_in_5 : decode cX8_in 5 = .ok (.iload_n 0, 1) := by decide +kernel
theorem dX8_in_6 : decode cX8_in 6 = .ok (.iload_n 2, 1) := by decide +kernel
theorem dX8_in_7 : decode cX8_in 7 = .ok (.if_icmp .gt 7, 3) := by decide +kernel
theorem dX8_in_10 : decode cX8_in 10 = .ok (.iconst 1, 1) := by decide +kernel
theorem dX8_in_11 : decode cX8_in 11 = .ok (.goto 4, 3) := by decide +kernel
theorem dX8_in_14 : decode cX8_in 14 = .ok (.iconst 0, 1) := by decide +kernel
theorem dX8_in_15 : decode cX8_in 15 = .ok (.ireturn, 1) := by decide +kernel
theorem dX8_first_0 : decode cX8_first 0 = .ok (.iload_n 0, 1) := by decide +kernel
theorem dX8_first_1 : decode cX8_first 1 = .ok (.ifCond .ne 9, 3) := by decide +kernel
theorem dX8_first_4 : decode cX8_first 4 = .ok (.ldc2_w 51, 3) := by decide +kernel
theorem dX8_first_7 : decode cX8_first 7 = .ok (.goto 50, 3) := by decide +kernel
theorem dX8_first_10 : decode cX8_first 10 = .ok (.iload_n 0, 1) := by decide +kernel
theorem dX8_first_11 : decode cX8_first 11 = .ok (.iconst 1, 1) := by decide +kernel
theorem dX8_first_12 : decode cX8_first 12 = .ok (.if_icmp .ne 9, 3) := by decide +kernel
theorem dX8_first_15 : decode cX8_first 15 = .ok (.ldc2_w 53, 3) := by decide +kernel
theorem dX8_first_18 : decode cX8_first 18 = .ok (.goto 39, 3) := by decide +kernel
theorem dX8_first_21 : decode cX8_first 21 = .ok (.iload_n 0, 1) := by decide +kernel
theorem dX8_first_22 : decode cX8_first 22 = .ok (.iconst 2, 1) := by decide +kernel
theorem dX8_first_23 : decode cX8_first 23 = .ok (.if_icmp .ne 9, 3) := by decide +kernel
theorem dX8_first_26 : decode cX8_first 26 = .ok (.ldc2_w 55, 3) := by decide +kernel
theorem dX8_first_29 : decode cX8_first 29 = .ok (.goto 28, 3) := by decide +kernel
theorem dX8_first_32 : decode cX8_first 32 = .ok (.iload_n 0, 1) := by decide +kernel
theorem dX8_first_33 : decode cX8_first 33 = .ok (.iconst 3, 1) := by decide +kernel
theorem dX8_first_34 : decode cX8_first 34 = .ok (.if_icmp .ne 9, 3) := by decide +kernel
theorem dX8_first_37 : decode cX8_first 37 = .ok (.ldc2_w 57, 3) := by decide +kernel
theorem dX8_first_40 : decode cX8_first 40 = .ok (.goto 17, 3) := by decide +kernel
theorem dX8_first_43 : decode cX8_first 43 = .ok (.iload_n 0, 1) := by decide +kernel
theorem dX8_first_44 : decode cX8_first 44 = .ok (.iconst 4, 1) := by decide +kernel
theorem dX8_first_45 : decode cX8_first 45 = .ok (.if_icmp .ne 9, 3) := by decide +kernel
theorem dX8_first_48 : decode cX8_first 48 = .ok (.ldc2_w 59, 3) := by decide +kernel
theorem dX8_first_51 : decode cX8_first 51 = .ok (.goto 6, 3) := by decide +kernel
theorem dX8_first_54 : decode cX8_first 54 = .ok (.ldc2_w 61, 3) := by decide +kernel
theorem dX8_first_57 : decode cX8_first 57 = .ok (.lreturn, 1) := by decide +kernel
theorem dX8_second_0 : decode cX8_second 0 = .ok (.iload_n 0, 1) := by decide +kernel
theorem dX8_second_1 : decode cX8_second 1 = .ok (.ifCond .ne 9, 3) := by decide +kernel
theorem dX8_second_4 : decode cX8_second 4 = .ok (.ldc2_w 63, 3) := by decide +kernel
theorem dX8_second_7 : decode cX8_second 7 = .ok (.goto 50, 3) := by decide +kernel
theorem dX8_second_10 : decode cX8_second 10 = .ok (.iload_n 0, 1) := by decide +kernel
theorem dX8_second_11 : decode cX8_second 11 = .ok (.iconst 1, 1) := by decide +kernel
theorem dX8_second_12 : decode cX8_second 12 = .ok (.if_icmp .ne 9, 3) := by decide +kernel
theorem dX8_second_15 : decode cX8_second 15 = .ok (.ldc2_w 65, 3) := by decide +kernel
theorem dX8_second_18 : decode cX8_second 18 = .ok (.goto 39, 3) := by decide +kernel
theorem dX8_second_21 : decode cX8_second 21 = .ok (.iload_n 0, 1) := by decide +kernel
theorem dX8_second_22 : decode cX8_second 22 = .ok (.iconst 2, 1) := by decide +kernel
theorem dX8_second_23 : decode cX8_second 23 = .ok (.if_icmp .ne 9, 3) := by decide +kernel
theorem dX8_second_26 : decode cX8_second 26 = .ok (.ldc2_w 67, 3) := by decide +kernel
theorem dX8_second_29 : decode cX8_second 29 = .ok (.goto 28, 3) := by decide +kernel
theorem dX8_second_32 : decode cX8_second 32 = .ok (.iload_n 0, 1) := by decide +kernel
theorem dX8_second_33 : decode cX8_second 33 = .ok (.iconst 3, 1) := by decide +kernel
theorem dX8_second_34 : decode cX8_second 34 = .ok (.if_icmp .ne 9, 3) := by decide +kernel
theorem dX8_second_37 : decode cX8_second 37 = .ok (.ldc2_w 69, 3) := by decide +kernel
theorem dX8_second_40 : decode cX8_second 40 = .ok (.goto 17, 3) := by decide +kernel
theorem dX8_second_43 : decode cX8_second 43 = .ok (.iload_n 0, 1) := by decide +kernel
theorem dX8_second_44 : decode cX8_second 44 = .ok (.iconst 4, 1) := by decide +kernel
theorem dX8_second_45 : decode cX8_second 45 = .ok (.if_icmp .ne 9, 3) := by decide +kernel
theorem dX8_second_48 : decode cX8_second 48 = .ok (.ldc2_w 71, 3) := by decide +kernel
theorem dX8_second_51 : decode cX8_second 51 = .ok (.goto 6, 3) := by decide +kernel
theorem dX8_second_54 : decode cX8_second 54 = .ok (.ldc2_w 73, 3) := by decide +kernel
theorem dX8_second_57 : decode cX8_second 57 = .ok (.lreturn, 1) := by decide +kernel
theorem dX8_third_0 : decode cX8_third 0 = .ok (.iload_n 0, 1) := by decide +kernel
theorem dX8_third_1 : decode cX8_third 1 = .ok (.ifCond .ne 9, 3) := by decide +kernel
theorem dX8_third_4 : decode cX8_third 4 = .ok (.ldc2_w 75, 3) := by decide +kernel
theorem dX8_third_7 : decode cX8_third 7 = .ok (.goto 50, 3) := by decide +kernel
theorem dX8_third_10 : decode cX8_third 10 = .ok (.iload_n 0, 1) := by decide +kernel
theorem dX8_third_11 : decode cX8_third 11 = .ok (.iconst 1, 1) := by decide +kernel
theorem dX8_third_12 : decode cX8_third 12 = .ok (.if_icmp .ne 9, 3) := by decide +kernel
theorem dX8_third_15 : decode cX8_third 15 = .ok (.ldc2_w 77, 3) := by decide +kernel
theorem dX8_third_18 : decode cX8_third 18 = .ok (.goto 39, 3) := by decide +kernel
theorem dX8_third_21 : decode cX8_third 21 = .ok (.iload_n 0, 1) := by decide +kernel
theorem dX8_third_22 : decode cX8_third 22 = .ok (.iconst 2, 1) := by decide +kernel
theorem dX8_third_23 : decode cX8_third 23 = .ok (.if_icmp .ne 9, 3) := by decide +kernel
theorem dX8_third_26 : decode cX8_third 26 = .ok (.ldc2_w 79, 3) := by decide +kernel
theorem dX8_third_29 : decode cX8_third 29 = .ok (.goto 28, 3) := by decide +kernel
theorem dX8_third_32 : decode cX8_third 32 = .ok (.iload_n 0, 1) := by decide +kernel
theorem dX8_third_33 : decode cX8_third 33 = .ok (.iconst 3, 1) := by decide +kernel
theorem dX8_third_34 : decode cX8_third 34 = .ok (.if_icmp .ne 9, 3) := by decide +kernel
theorem dX8_third_37 : decode cX8_third 37 = .ok (.ldc2_w 81, 3) := by decide +kernel
theorem dX8_third_40 : decode cX8_third 40 = .ok (.goto 17, 3) := by decide +kernel
theorem dX8_third_43 : decode cX8_third 43 = .ok (.iload_n 0, 1) := by decide +kernel
theorem dX8_third_44 : decode cX8_third 44 = .ok (.iconst 4, 1) := by decide +kernel
theorem dX8_third_45 : decode cX8_third 45 = .ok (.if_icmp .ne 9, 3) := by decide +kernel
theorem dX8_third_48 : decode cX8_third 48 = .ok (.ldc2_w 83, 3) := by decide +kernel
theorem dX8_third_51 : decode cX8_third 51 = .ok (.goto 6, 3) := by decide +kernel
theorem dX8_third_54 : decode cX8_third 54 = .ok (.ldc2_w 85, 3) := by decide +kernel
theorem dX8_third_57 : decode cX8_third 57 = .ok (.lreturn, 1) := by decide +kernel
set_option maxRecDepth 20000 in
theorem ggX8_hash_X8_first : GoodIn wsX8_hash wsX8_first := goodIn_r _ [5, 6, 7, 8, 9, 10, 11] (by decide +kernel) (by decide +kernel)
set_option maxRecDepth 20000 in
theorem gX8_hash_X8_first : GoodIn wsX8_hash (va_wsS RX8 87 yX8_first wsX8_first) := goodIn_app (goodIn_of _ (by decide +kernel)) ggX8_hash_X8_first
set_option maxRecDepth 20000 in
theorem ggX8_hash_X8_second : GoodIn wsX8_hash wsX8_second := goodIn_r _ [14, 15, 16, 17, 18, 19, 20] (by decide +kernel) (by decide +kernel)
set_option maxRecDepth 20000 in
theorem gX8_hash_X8_second : GoodIn wsX8_hash (va_wsS RX8 91 yX8_second wsX8_second) := goodIn_app (goodIn_of _ (by decide +kernel)) ggX8_hash_X8_second
set_option maxRecDepth 20000 in
theorem ggX8_hash_X8_third : GoodIn wsX8_hash wsX8_third := goodIn_r _ [23, 24, 25, 26, 27, 28, 29] (by decide +kernel) (by decide +kernel)
set_option maxRecDepth 20000 in
theorem gX8_hash_X8_third : GoodIn wsX8_hash (va_wsS RX8 94 yX8_third wsX8_third) := goodIn_app (goodIn_of _ (by decide +kernel)) ggX8_hash_X8_third
theorem dX8_hash_0 : decode cX8_hash 0 = .ok (.iload_n 1, 1) := by decide +kernel
theorem dX8_hash_1 : decode cX8_hash 1 = .ok (.i2l, 1) := by decide +kernel
theorem dX8_hash_2 : decode cX8_hash 2 = .ok (.iload_n 0, 1) := by decide +kernel
theorem dX8_hash_3 : decode cX8_hash 3 = .ok (.invokestatic 87, 3) := by decide +kernel
theorem dX8_hash_6 : decode cX8_hash 6 = .ok (.lmul, 1) := by decide +kernel
theorem dX8_hash_7 : decode cX8_hash 7 = .ok (.iload_n 2, 1) := by decide +kernel
theorem dX8_hash_8 : decode cX8_hash 8 = .ok (.i2l, 1) := by decide +kernel
theorem dX8_hash_9 : decode cX8_hash 9 = .ok (.iload_n 0, 1) := by decide +kernel
theorem dX8_hash_10 : decode cX8_hash 10 = .ok (.invokestatic 91, 3) := by decide +kernel
theorem dX8_hash_13 : decode cX8_hash 13 = .ok (.lmul, 1) := by decide +kernel
theorem dX8_hash_14 : decode cX8_hash 14 = .ok (.ladd, 1) := by decide +kernel
theorem dX8_hash_15 : decode cX8_hash 15 = .ok (.iload_n 0, 1) := by decide +kernel
theorem dX8_hash_16 : decode cX8_hash 16 = .ok (.invokestatic 94, 3) := by decide +kernel
theorem dX8_hash_19 : decode cX8_hash 19 = .ok (.ladd, 1) := by decide +kernel
theorem dX8_hash_20 : decode cX8_hash 20 = .ok (.ldc2_w 97, 3) := by decide +kernel
theorem dX8_hash_23 : decode cX8_hash 23 = .ok (.lrem, 1) := by decide +kernel
theorem dX8_hash_24 : decode cX8_hash 24 = .ok (.l2i, 1) := by decide +kernel
theorem dX8_hash_25 : decode cX8_hash 25 = .ok (.ireturn, 1) := by decide +kernel
theorem dX8_below_0 : decode cX8_below 0 = .ok (.iconst 0, 1) := by decide +kernel
theorem dX8_below_1 : decode cX8_below 1 = .ok (.istore_n 2, 1) := by decide +kernel
theorem dX8_below_2 : decode cX8_below 2 = .ok (.iload_n 2, 1) := by decide +kernel
theorem dX8_below_3 : decode cX8_below 3 = .ok (.aload_n 0, 1) := by decide +kernel
theorem dX8_below_4 : decode cX8_below 4 = .ok (.getfield 99, 3) := by decide +kernel
theorem dX8_below_7 : decode cX8_below 7 = .ok (.if_icmp .ge 19, 3) := by decide +kernel
theorem dX8_below_10 : decode cX8_below 10 = .ok (.aload_n 0, 1) := by decide +kernel
theorem dX8_below_11 : decode cX8_below 11 = .ok (.getfield 7, 3) := by decide +kernel
theorem dX8_below_14 : decode cX8_below 14 = .ok (.iload_n 2, 1) := by decide +kernel
theorem dX8_below_15 : decode cX8_below 15 = .ok (.iaload, 1) := by decide +kernel
theorem dX8_below_16 : decode cX8_below 16 = .ok (.iload_n 1, 1) := by decide +kernel
theorem dX8_below_17 : decode cX8_below 17 = .ok (.if_icmp .ge 9, 3) := by decide +kernel
theorem dX8_below_20 : decode cX8_below 20 = .ok (.iinc 2 1, 3) := by decide +kernel
theorem dX8_below_23 : decode cX8_below 23 = .ok (.goto (-21), 3) := by decide +kernel
theorem dX8_below_26 : decode cX8_below 26 = .ok (.iload_n 2, 1) := by decide +kernel
theorem dX8_below_27 : decode cX8_below 27 = .ok (.ireturn, 1) := by decide +kernel
set_option maxRecDepth 20000 in
theorem ggX8_is_X8_below : GoodIn wsX8_is wsX8_below := goodIn_r _ [7, 1, 2, 8, 9, 10, 11, 12, 13, 14, 15, 16, 17, 18, 19, 20, 21, 22, 23, 24, 25, 26, 27] (by decide +kernel) (by decide +kernel)
set_option maxRecDepth 20000 in
theorem gX8_is_X8_below : GoodIn wsX8_is (wsV RX8 102 RX8 yX8_below wsX8_below) := goodIn_app (goodIn_of _ (by decide +kernel)) ggX8_is_X8_below
theorem dX8_is_0 : decode cX8_is 0 = .ok (.aload_n 0, 1) := by decide +kernel
theorem dX8_is_1 : decode cX8_is 1 = .ok (.iload_n 1, 1) := by decide +kernel
theorem dX8_is_2 : decode cX8_is 2 = .ok (.invokevirtual 102, 3) := by decide +kernel
theorem dX8_is_5 : decode cX8_is 5 = .ok (.istore_n 2, 1) := by decide +kernel
theorem dX8_is_6 : decode cX8_is 6 = .ok (.iload_n 2, 1) := by decide +kernel
theorem dX8_is_7 : decode cX8_is 7 = .ok (.aload_n 0, 1) := by decide +kernel
theorem dX8_is_8 : decode cX8_is 8 = .ok (.getfield 99, 3) := by decide +kernel
theorem dX8_is_11 : decode cX8_is 11 = .ok (.if_icmp .ge 17, 3) := by decide +kernel
theorem dX8_is_14 : decode cX8_is 14 = .ok (.aload_n 0, 1) := by decide +kernel
theorem dX8_is_15 : decode cX8_is 15 = .ok (.getfield 7, 3) := by decide +kernel
theorem dX8_is_18 : decode cX8_is 18 = .ok (.iload_n 2, 1) := by decide +kernel
theorem dX8_is_19 : decode cX8_is 19 = .ok (.iaload, 1) := by decide +kernel
theorem dX8_is_20 : decode cX8_is 20 = .ok (.iload_n 1, 1) := by decide +kernel
theorem dX8_is_21 : decode cX8_is 21 = .ok (.if_icmp .ne 7, 3) := by decide +kernel
theorem dX8_is_24 : decode cX8_is 24 = .ok (.iconst 1, 1) := by decide +kernel
theorem dX8_is_25 : decode cX8_is 25 = .ok (.goto 4, 3) := by decide +kernel
theorem dX8_is_28 : decode cX8_is 28 = .ok (.iconst 0, 1) := by decide +kernel
theorem dX8_is_29 : decode cX8_is 29 = .ok (.ireturn, 1) := by decide +kernel
set_option maxRecDepth 20000 in
theorem ggX8_put_X8_below : GoodIn wsX8_put wsX8_below := goodIn_r _ [7, 1, 2, 8, 9, 10, 11, 12, 13, 14, 15, 16, 17, 18, 19, 20, 21, 22, 23, 24, 25, 26, 27] (by decide +kernel) (by decide +kernel)
set_option maxRecDepth 20000 in
theorem gX8_put_X8_below : GoodIn wsX8_put (wsV RX8 102 RX8 yX8_below wsX8_below) := goodIn_app (goodIn_of _ (by decide +kernel)) ggX8_put_X8_below
theorem dX8_put_0 : decode cX8_put 0 = .ok (.aload_n 0, 1) := by decide +kernel
theorem dX8_put_1 : decode cX8_put 1 = .ok (.iload_n 1, 1) := by decide +kernel
theorem dX8_put_2 : decode cX8_put 2 = .ok (.invokevirtual 102, 3) := by decide +kernel
theorem dX8_put_5 : decode cX8_put 5 = .ok (.istore_n 2, 1) := by decide +kernel
theorem dX8_put_6 : decode cX8_put 6 = .ok (.aload_n 0, 1) := by decide +kernel
theorem dX8_put_7 : decode cX8_put 7 = .ok (.getfield 99, 3) := by decide +kernel
theorem dX8_put_10 : decode cX8_put 10 = .ok (.istore_n 3, 1) := by decide +kernel
theorem dX8_put_11 : decode cX8_put 11 = .ok (.iload_n 3, 1) := by decide +kernel
theorem dX8_put_12 : decode cX8_put 12 = .ok (.iload_n 2, 1) := by decide +kernel
theorem dX8_put_13 : decode cX8_put 13 = .ok (.if_icmp .le 23, 3) := by decide +kernel
theorem dX8_put_16 : decode cX8_put 16 = .ok (.aload_n 0, 1) := by decide +kernel
theorem dX8_put_17 : decode cX8_put 17 = .ok (.getfield 7, 3) := by decide +kernel
theorem dX8_put_20 : decode cX8_put 20 = .ok (.iload_n 3, 1) := by decide +kernel
theorem dX8_put_21 : decode cX8_put 21 = .ok (.aload_n 0, 1) := by decide +kernel
theorem dX8_put_22 : decode cX8_put 22 = .ok (.getfield 7, 3) := by decide +kernel
theorem dX8_put_25 : decode cX8_put 25 = .ok (.iload_n 3, 1) := by decide +kernel
theorem dX8_put_26 : decode cX8_put 26 = .ok (.iconst 1, 1) := by decide +kernel
theorem dX8_put_27 : decode cX8_put 27 = .ok (.isub, 1) := by decide +kernel
theorem dX8_put_28 : decode cX8_put 28 = .ok (.iaload, 1) := by decide +kernel
theorem dX8_put_29 : decode cX8_put 29 = .ok (.iastore, 1) := by decide +kernel
theorem dX8_put_30 : decode cX8_put 30 = .ok (.iinc 3 (-1), 3) := by decide +kernel
theorem dX8_put_33 : decode cX8_put 33 = .ok (.goto (-22), 3) := by decide +kernel
theorem dX8_put_36 : decode cX8_put 36 = .ok (.aload_n 0, 1) := by decide +kernel
theorem dX8_put_37 : decode cX8_put 37 = .ok (.getfield 7, 3) := by decide +kernel
theorem dX8_put_40 : decode cX8_put 40 = .ok (.iload_n 2, 1) := by decide +kernel
theorem dX8_put_41 : decode cX8_put 41 = .ok (.iload_n 1, 1) := by decide +kernel
theorem dX8_put_42 : decode cX8_put 42 = .ok (.iastore, 1) := by decide +kernel
theorem dX8_put_43 : decode cX8_put 43 = .ok (.aload_n 0, 1) := by decide +kernel
theorem dX8_put_44 : decode cX8_put 44 = .ok (.dup, 1) := by decide +kernel
theorem dX8_put_45 : decode cX8_put 45 = .ok (.getfield 99, 3) := by decide +kernel
theorem dX8_put_48 : decode cX8_put 48 = .ok (.iconst 1, 1) := by decide +kernel
theorem dX8_put_49 : decode cX8_put 49 = .ok (.iadd, 1) := by decide +kernel
theorem dX8_put_50 : decode cX8_put 50 = .ok (.putfield 99, 3) := by decide +kernel
theorem dX8_put_53 : decode cX8_put 53 = .ok (.return_, 1) := by decide +kernel
set_option maxRecDepth 20000 in
theorem ggX8_add_X8_in : GoodIn wsX8_add wsX8_in := goodIn_r _ [8] (by decide +kernel) (by decide +kernel)
set_option maxRecDepth 20000 in
theorem gX8_add_X8_in : GoodIn wsX8_add (va_wsS RX8 107 yX8_in wsX8_in) := goodIn_app (goodIn_of _ (by decide +kernel)) ggX8_add_X8_in
set_option maxRecDepth 20000 in
theorem ggX8_add_X8_fails : GoodIn wsX8_add wsX8_fails := goodIn_r _ [12, 1, 26, 27, 28, 29, 30, 31, 32, 33, 34, 35, 36, 37, 38, 39, 40, 41, 42, 43, 44, 45] (by decide +kernel) (by decide +kernel)
set_option maxRecDepth 20000 in
theorem gX8_add_X8_fails : GoodIn wsX8_add (wsV RX8 111 RX8 yX8_fails wsX8_fails) := goodIn_app (goodIn_of _ (by decide +kernel)) ggX8_add_X8_fails
set_option maxRecDepth 20000 in
theorem ggX8_add_X8_is : GoodIn wsX8_add wsX8_is := goodIn_r _ [16, 4, 17, 18, 19, 20, 7, 21, 26, 27, 28, 29, 30, 31, 32, 33, 34, 35, 36, 37, 38, 39, 40, 41, 42, 43, 44, 45] (by decide +kernel) (by decide +kernel)
set_option maxRecDepth 20000 in
theorem gX8_add_X8_is : GoodIn wsX8_add (wsV RX8 118 RX8 yX8_is wsX8_is) := goodIn_app (goodIn_of _ (by decide +kernel)) ggX8_add_X8_is
set_option maxRecDepth 20000 in
theorem ggX8_add_X8_put : GoodIn wsX8_add wsX8_put := goodIn_r _ [25, 4, 17, 18, 19, 20, 7, 21, 26, 27, 28, 29, 30, 31, 32, 33, 34, 35, 36, 37, 38, 39, 40, 41, 42, 43, 44, 45] (by decide +kernel) (by decide +kernel)
set_option maxRecDepth 20000 in
theorem gX8_add_X8_put : GoodIn wsX8_add (wsV RX8 122 RX8 yX8_put wsX8_put) := goodIn_app (goodIn_of _ (by decide +kernel)) ggX8_add_X8_put
theorem dX8_add_0 : decode cX8_add 0 = .ok (.aload_n 0, 1) := by decide +kernel
theorem dX8_add_1 : decode cX8_add 1 = .ok (.iconst 0, 1) := by decide +kernel
theorem dX8_add_2 : decode cX8_add 2 = .ok (.putfield 47, 3) := by decide +kernel
theorem dX8_add_5 : decode cX8_add 5 = .ok (.iload_n 1, 1) := by decide +kernel
theorem dX8_add_6 : decode cX8_add 6 = .ok (.iconst 0, 1) := by decide +kernel
theorem dX8_add_7 : decode cX8_add 7 = .ok (.ldc 106, 2) := by decide +kernel
theorem dX8_add_9 : decode cX8_add 9 = .ok (.invokestatic 107, 3) := by decide +kernel
theorem dX8_add_12 : decode cX8_add 12 = .ok (.ifCond .ne 9, 3) := by decide +kernel
theorem dX8_add_15 : decode cX8_add 15 = .ok (.aload_n 0, 1) := by decide +kernel
theorem dX8_add_16 : decode cX8_add 16 = .ok (.iconst 1, 1) := by decide +kernel
theorem dX8_add_17 : decode cX8_add 17 = .ok (.invokevirtual 111, 3) := by decide +kernel
theorem dX8_add_20 : decode cX8_add 20 = .ok (.ireturn, 1) := by decide +kernel
theorem dX8_add_21 : decode cX8_add 21 = .ok (.aload_n 0, 1) := by decide +kernel
theorem dX8_add_22 : decode cX8_add 22 = .ok (.getfield 114, 3) := by decide +kernel
theorem dX8_add_25 : decode cX8_add 25 = .ok (.ifCond .ne 20, 3) := by decide +kernel
theorem dX8_add_28 : decode cX8_add 28 = .ok (.aload_n 0, 1) := by decide +kernel
theorem dX8_add_29 : decode cX8_add 29 = .ok (.getfield 99, 3) := by decide +kernel
theorem dX8_add_32 : decode cX8_add 32 = .ok (.bipush 120, 2) := by decide +kernel
theorem dX8_add_34 : decode cX8_add 34 = .ok (.if_icmp .eq 11, 3) := by decide +kernel
theorem dX8_add_37 : decode cX8_add 37 = .ok (.aload_n 0, 1) := by decide +kernel
theorem dX8_add_38 : decode cX8_add 38 = .ok (.iload_n 1, 1) := by decide +kernel
theorem dX8_add_39 : decode cX8_add 39 = .ok (.invokevirtual 118, 3) := by decide +kernel
theorem dX8_add_42 : decode cX8_add 42 = .ok (.ifCond .eq 9, 3) := by decide +kernel
theorem dX8_add_45 : decode cX8_add 45 = .ok (.aload_n 0, 1) := by decide +kernel
theorem dX8_add_46 : decode cX8_add 46 = .ok (.iconst 2, 1) := by decide +kernel
theorem dX8_add_47 : decode cX8_add 47 = .ok (.invokevirtual 111, 3) := by decide +kernel
theorem dX8_add_50 : decode cX8_add 50 = .ok (.ireturn, 1) := by decide +kernel
theorem dX8_add_51 : decode cX8_add 51 = .ok (.aload_n 0, 1) := by decide +kernel
theorem dX8_add_52 : decode cX8_add 52 = .ok (.iload_n 1, 1) := by decide +kernel
theorem dX8_add_53 : decode cX8_add 53 = .ok (.invokevirtual 122, 3) := by decide +kernel
theorem dX8_add_56 : decode cX8_add 56 = .ok (.aload_n 0, 1) := by decide +kernel
theorem dX8_add_57 : decode cX8_add 57 = .ok (.getfield 99, 3) := by decide +kernel
theorem dX8_add_60 : decode cX8_add 60 = .ok (.ireturn, 1) := by decide +kernel
set_option maxRecDepth 20000 in
theorem ggX8_addLine_X8_in : GoodIn wsX8_addLine wsX8_in := goodIn_r _ [8] (by decide +kernel) (by decide +kernel)
set_option maxRecDepth 20000 in
theorem gX8_addLine_X8_in : GoodIn wsX8_addLine (va_wsS RX8 107 yX8_in wsX8_in) := goodIn_app (goodIn_of _ (by decide +kernel)) ggX8_addLine_X8_in
set_option maxRecDepth 20000 in
theorem ggX8_addLine_X8_fails : GoodIn wsX8_addLine wsX8_fails := goodIn_r _ [12, 1, 26, 27, 28, 29, 30, 31, 32, 33, 34, 35, 36, 37, 38, 39, 40, 41, 42, 43, 44, 45] (by decide +kernel) (by decide +kernel)
set_option maxRecDepth 20000 in
theorem gX8_addLine_X8_fails : GoodIn wsX8_addLine (wsV RX8 111 RX8 yX8_fails wsX8_fails) := goodIn_app (goodIn_of _ (by decide +kernel)) ggX8_addLine_X8_fails
set_option maxRecDepth 20000 in
theorem ggX8_addLine_X8_is : GoodIn wsX8_addLine wsX8_is := goodIn_r _ [16, 4, 17, 18, 19, 20, 7, 21, 26, 27, 28, 29, 30, 31, 32, 33, 34, 35, 36, 37, 38, 39, 40, 41, 42, 43, 44, 45] (by decide +kernel) (by decide +kernel)
set_option maxRecDepth 20000 in
theorem gX8_addLine_X8_is : GoodIn wsX8_addLine (wsV RX8 118 RX8 yX8_is wsX8_is) := goodIn_app (goodIn_of _ (by decide +kernel)) ggX8_addLine_X8_is
set_option maxRecDepth 20000 in
theorem ggX8_addLine_X8_put : GoodIn wsX8_addLine wsX8_put := goodIn_r _ [25, 4, 17, 18, 19, 20, 7, 21, 26, 27, 28, 29, 30, 31, 32, 33, 34, 35, 36, 37, 38, 39, 40, 41, 42, 43, 44, 45] (by decide +kernel) (by decide +kernel)
set_option maxRecDepth 20000 in
theorem gX8_addLine_X8_put : GoodIn wsX8_addLine (wsV RX8 122 RX8 yX8_put wsX8_put) := goodIn_app (goodIn_of _ (by decide +kernel)) ggX8_addLine_X8_put
theorem dX8_addLine_0 : decode cX8_addLine 0 = .ok (.aload_n 0, 1) := by decide +kernel
theorem dX8_addLine_1 : decode cX8_addLine 1 = .ok (.iconst 0, 1) := by decide +kernel
theorem dX8_addLine_2 : decode cX8_addLine 2 = .ok (.putfield 47, 3) := by decide +kernel
theorem dX8_addLine_5 : decode cX8_addLine 5 = .ok (.iload_n 1, 1) := by decide +kernel
theorem dX8_addLine_6 : decode cX8_addLine 6 = .ok (.iconst 0, 1) := by decide +kernel
theorem dX8_addLine_7 : decode cX8_addLine 7 = .ok (.ldc 106, 2) := by decide +kernel
theorem dX8_addLine_9 : decode cX8_addLine 9 = .ok (.invokestatic 107, 3) := by decide +kernel
theorem dX8_addLine_12 : decode cX8_addLine 12 = .ok (.ifCond .eq 36, 3) := by decide +kernel
theorem dX8_addLine_15 : decode cX8_addLine 15 = .ok (.iload_n 2, 1) := by decide +kernel
theorem dX8_addLine_16 : decode cX8_addLine 16 = .ok (.iconst 1, 1) := by decide +kernel
theorem dX8_addLine_17 : decode cX8_addLine 17 = .ok (.sipush 9999, 3) := by decide +kernel
theorem dX8_addLine_20 : decode cX8_addLine 20 = .ok (.invokestatic 107, 3) := by decide +kernel
theorem dX8_addLine_23 : decode cX8_addLine 23 = .ok (.ifCond .eq 25, 3) := by decide +kernel
theorem dX8_addLine_26 : decode cX8_addLine 26 = .ok (.iload_n 3, 1) := by decide +kernel
theorem dX8_addLine_27 : decode cX8_addLine 27 = .ok (.iconst 1, 1) := by decide +kernel
theorem dX8_addLine_28 : decode cX8_addLine 28 = .ok (.bipush 40, 2) := by decide +kernel
theorem dX8_addLine_30 : decode cX8_addLine 30 = .ok (.invokestatic 107, 3) := by decide +kernel
theorem dX8_addLine_33 : decode cX8_addLine 33 = .ok (.ifCond .eq 15, 3) := by decide +kernel
theorem dX8_addLine_36 : decode cX8_addLine 36 = .ok (.iload_n 1, 1) := by decide +kernel
theorem dX8_addLine_37 : decode cX8_addLine 37 = .ok (.iload_n 2, 1) := by decide +kernel
theorem dX8_addLine_38 : decode cX8_addLine 38 = .ok (.iload_n 3, 1) := by decide +kernel
theorem dX8_addLine_39 : decode cX8_addLine 39 = .ok (.iconst 1, 1) := by decide +kernel
theorem dX8_addLine_40 : decode cX8_addLine 40 = .ok (.isub, 1) := by decide +kernel
theorem dX8_addLine_41 : decode cX8_addLine 41 = .ok (.imul, 1) := by decide +kernel
theorem dX8_addLine_42 : decode cX8_addLine 42 = .ok (.iadd, 1) := by decide +kernel
theorem dX8_addLine_43 : decode cX8_addLine 43 = .ok (.ldc 106, 2) := by decide +kernel
theorem dX8_addLine_45 : decode cX8_addLine 45 = .ok (.if_icmp .le 9, 3) := by decide +kernel
theorem dX8_addLine_48 : decode cX8_addLine 48 = .ok (.aload_n 0, 1) := by decide +kernel
theorem dX8_addLine_49 : decode cX8_addLine 49 = .ok (.iconst 1, 1) := by decide +kernel
theorem dX8_addLine_50 : decode cX8_addLine 50 = .ok (.invokevirtual 111, 3) := by decide +kernel
theorem dX8_addLine_53 : decode cX8_addLine 53 = .ok (.ireturn, 1) := by decide +kernel
theorem dX8_addLine_54 : decode cX8_addLine 54 = .ok (.iconst 0, 1) := by decide +kernel
theorem dX8_addLine_55 : decode cX8_addLine 55 = .ok (.istore 4, 2) := by decide +kernel
theorem dX8_addLine_57 : decode cX8_addLine 57 = .ok (.iconst 0, 1) := by decide +kernel
theorem dX8_addLine_58 : decode cX8_addLine 58 = .ok (.istore 5, 2) := by decide +kernel
theorem dX8_addLine_60 : decode cX8_addLine 60 = .ok (.iload 5, 2) := by decide +kernel
theorem dX8_addLine_62 : decode cX8_addLine 62 = .ok (.iload_n 3, 1) := by decide +kernel
theorem dX8_addLine_63 : decode cX8_addLine 63 = .ok (.if_icmp .ge 32, 3) := by decide +kernel
theorem dX8_addLine_66 : decode cX8_addLine 66 = .ok (.iload 4, 2) := by decide +kernel
theorem dX8_addLine_68 : decode cX8_addLine 68 = .ok (.aload_n 0, 1) := by decide +kernel
theorem dX8_addLine_69 : decode cX8_addLine 69 = .ok (.iload_n 1, 1) := by decide +kernel
theorem dX8_addLine_70 : decode cX8_addLine 70 = .ok (.iload_n 2, 1) := by decide +kernel
theorem dX8_addLine_71 : decode cX8_addLine 71 = .ok (.iload 5, 2) := by decide +kernel
theorem dX8_addLine_73 : decode cX8_addLine 73 = .ok (.imul, 1) := by decide +kernel
theorem dX8_addLine_74 : decode cX8_addLine 74 = .ok (.iadd, 1) := by decide +kernel
theorem dX8_addLine_75 : decode cX8_addLine 75 = .ok (.invokevirtual 118, 3) := by decide +kernel
theorem dX8_addLine_78 : decode cX8_addLine 78 = .ok (.ifCond .eq 7, 3) := by decide +kernel
theorem dX8_addLine_81 : decode cX8_addLine 81 = .ok (.iconst 0, 1) := by decide +kernel
theorem dX8_addLine_82 : decode cX8_addLine 82 = .ok (.goto 4, 3) := by decide +kernel
theorem dX8_addLine_85 : decode cX8_addLine 85 = .ok (.iconst 1, 1) := by decide +kernel
theorem dX8_addLine_86 : decode cX8_addLine 86 = .ok (.iadd, 1) := by decide +kernel
theorem dX8_addLine_87 : decode cX8_addLine 87 = .ok (.istore 4, 2) := by decide +kernel
theorem dX8_addLine_89 : decode cX8_addLine 89 = .ok (.iinc 5 1, 3) := by decide +kernel
theorem dX8_addLine_92 : decode cX8_addLine 92 = .ok (.goto (-32), 3) := by decide +kernel
theorem dX8_addLine_95 : decode cX8_addLine 95 = .ok (.aload_n 0, 1) := by decide +kernel
theorem dX8_addLine_96 : decode cX8_addLine 96 = .ok (.getfield 114, 3) := by decide +kernel
theorem dX8_addLine_99 : decode cX8_addLine 99 = .ok (.ifCond .ne 15, 3) := by decide +kernel
theorem dX8_addLine_102 : decode cX8_addLine 102 = .ok (.aload_n 0, 1) := by decide +kernel
theorem dX8_addLine_103 : decode cX8_addLine 103 = .ok (.getfield 99, 3) := by decide +kernel
theorem dX8_addLine_106 : decode cX8_addLine 106 = .ok (.iload 4, 2) := by decide +kernel
theorem dX8_addLine_108 : decode cX8_addLine 108 = .ok (.iadd, 1) := by decide +kernel
theorem dX8_addLine_109 : decode cX8_addLine 109 = .ok (.bipush 120, 2) := by decide +kernel
theorem dX8_addLine_111 : decode cX8_addLine 111 = .ok (.if_icmp .le 9, 3) := by decide +kernel
theorem dX8_addLine_114 : decode cX8_addLine 114 = .ok (.aload_n 0, 1) := by decide +kernel
theorem dX8_addLine_115 : decode cX8_addLine 115 = .ok (.iconst 2, 1) := by decide +kernel
theorem dX8_addLine_116 : decode cX8_addLine 116 = .ok (.invokevirtual 111, 3) := by decide +kernel
theorem dX8_addLine_119 : decode cX8_addLine 119 = .ok (.ireturn, 1) := by decide +kernel
theorem dX8_addLine_120 : decode cX8_addLine 120 = .ok (.iconst 0, 1) := by decide +kernel
theorem dX8_addLine_121 : decode cX8_addLine 121 = .ok (.istore 5, 2) := by decide +kernel
theorem dX8_addLine_123 : decode cX8_addLine 123 = .ok (.iload 5, 2) := by decide +kernel
theorem dX8_addLine_125 : decode cX8_addLine 125 = .ok (.iload_n 3, 1) := by decide +kernel
theorem dX8_addLine_126 : decode cX8_addLine 126 = .ok (.if_icmp .ge 32, 3) := by decide +kernel
theorem dX8_addLine_129 : decode cX8_addLine 129 = .ok (.aload_n 0, 1) := by decide +kernel
theorem dX8_addLine_130 : decode cX8_addLine 130 = .ok (.iload_n 1, 1) := by decide +kernel
theorem dX8_addLine_131 : decode cX8_addLine 131 = .ok (.iload_n 2, 1) := by decide +kernel
theorem dX8_addLine_132 : decode cX8_addLine 132 = .ok (.iload 5, 2) := by decide +kernel
theorem dX8_addLine_134 : decode cX8_addLine 134 = .ok (.imul, 1) := by decide +kernel
theorem dX8_addLine_135 : decode cX8_addLine 135 = .ok (.iadd, 1) := by decide +kernel
theorem dX8_addLine_136 : decode cX8_addLine 136 = .ok (.invokevirtual 118, 3) := by decide +kernel
theorem dX8_addLine_139 : decode cX8_addLine 139 = .ok (.ifCond .ne 13, 3) := by decide +kernel
theorem dX8_addLine_142 : decode cX8_addLine 142 = .ok (.aload_n 0, 1) := by decide +kernel
theorem dX8_addLine_143 : decode cX8_addLine 143 = .ok (.iload_n 1, 1) := by decide +kernel
theorem dX8_addLine_144 : decode cX8_addLine 144 = .ok (.iload_n 2, 1) := by decide +kernel
theorem dX8_addLine_145 : decode cX8_addLine 145 = .ok (.iload 5, 2) := by decide +kernel
theorem dX8_addLine_147 : decode cX8_addLine 147 = .ok (.imul, 1) := by decide +kernel
theorem dX8_addLine_148 : decode cX8_addLine 148 = .ok (.iadd, 1) := by decide +kernel
theorem dX8_addLine_149 : decode cX8_addLine 149 = .ok (.invokevirtual 122, 3) := by decide +kernel
theorem dX8_addLine_152 : decode cX8_addLine 152 = .ok (.iinc 5 1, 3) := by decide +kernel
theorem dX8_addLine_155 : decode cX8_addLine 155 = .ok (.goto (-32), 3) := by decide +kernel
theorem dX8_addLine_158 : decode cX8_addLine 158 = .ok (.aload_n 0, 1) := by decide +kernel
theorem dX8_addLine_159 : decode cX8_addLine 159 = .ok (.getfield 99, 3) := by decide +kernel
theorem dX8_addLine_162 : decode cX8_addLine 162 = .ok (.ireturn, 1) := by decide +kernel
set_option maxRecDepth 20000 in
theorem ggX8_remove_X8_in : GoodIn wsX8_remove wsX8_in := goodIn_r _ [9] (by decide +kernel) (by decide +kernel)
set_option maxRecDepth 20000 in
theorem gX8_remove_X8_in : GoodIn wsX8_remove (va_wsS RX8 107 yX8_in wsX8_in) := goodIn_app (goodIn_of _ (by decide +kernel)) ggX8_remove_X8_in
set_option maxRecDepth 20000 in
theorem ggX8_remove_X8_fails : GoodIn wsX8_remove wsX8_fails := goodIn_r _ [13, 1, 22, 23, 24, 25, 26, 27, 28, 29, 30, 31, 32, 33, 34, 35, 36, 37, 38, 39, 40, 41] (by decide +kernel) (by decide +kernel)
set_option maxRecDepth 20000 in
theorem gX8_remove_X8_fails : GoodIn wsX8_remove (wsV RX8 111 RX8 yX8_fails wsX8_fails) := goodIn_app (goodIn_of _ (by decide +kernel)) ggX8_remove_X8_fails
set_option maxRecDepth 20000 in
theorem ggX8_remove_X8_is : GoodIn wsX8_remove wsX8_is := goodIn_r _ [17, 4, 5, 18, 19, 20, 8, 21, 22, 23, 24, 25, 26, 27, 28, 29, 30, 31, 32, 33, 34, 35, 36, 37, 38, 39, 40, 41] (by decide +kernel) (by decide +kernel)
set_option maxRecDepth 20000 in
theorem gX8_remove_X8_is : GoodIn wsX8_remove (wsV RX8 118 RX8 yX8_is wsX8_is) := goodIn_app (goodIn_of _ (by decide +kernel)) ggX8_remove_X8_is
set_option maxRecDepth 20000 in
theorem ggX8_remove_X8_below : GoodIn wsX8_remove wsX8_below := goodIn_r _ [21, 4, 5, 22, 23, 24, 25, 26, 27, 28, 29, 30, 31, 32, 33, 34, 35, 36, 37, 38, 39, 40, 41] (by decide +kernel) (by decide +kernel)
set_option maxRecDepth 20000 in
theorem gX8_remove_X8_below : GoodIn wsX8_remove (wsV RX8 102 RX8 yX8_below wsX8_below) := goodIn_app (goodIn_of _ (by decide +kernel)) ggX8_remove_X8_below
theorem dX8_remove_0 : decode cX8_remove 0 = .ok (.aload_n 0, 1) := by decide +kernel
theorem dX8_remove_1 : decode cX8_remove 1 = .ok (.iconst 0, 1) := by decide +kernel
theorem dX8_remove_2 : decode cX8_remove 2 = .ok (.putfield 47, 3) := by decide +kernel
theorem dX8_remove_5 : decode cX8_remove 5 = .ok (.iload_n 1, 1) := by decide +kernel
theorem dX8_remove_6 : decode cX8_remove 6 = .ok (.iconst 0, 1) := by decide +kernel
theorem dX8_remove_7 : decode cX8_remove 7 = .ok (.ldc 106, 2) := by decide +kernel
theorem dX8_remove_9 : decode cX8_remove 9 = .ok (.invokestatic 107, 3) := by decide +kernel
theorem dX8_remove_12 : decode cX8_remove 12 = .ok (.ifCond .ne 9, 3) := by decide +kernel
theorem dX8_remove_15 : decode cX8_remove 15 = .ok (.aload_n 0, 1) := by decide +kernel
theorem dX8_remove_16 : decode cX8_remove 16 = .ok (.iconst 1, 1) := by decide +kernel
theorem dX8_remove_17 : decode cX8_remove 17 = .ok (.invokevirtual 111, 3) := by decide +kernel
theorem dX8_remove_20 : decode cX8_remove 20 = .ok (.ireturn, 1) := by decide +kernel
theorem dX8_remove_21 : decode cX8_remove 21 = .ok (.aload_n 0, 1) := by decide +kernel
theorem dX8_remove_22 : decode cX8_remove 22 = .ok (.getfield 114, 3) := by decide +kernel
theorem dX8_remove_25 : decode cX8_remove 25 = .ok (.ifCond .ne 11, 3) := by decide +kernel
theorem dX8_remove_28 : decode cX8_remove 28 = .ok (.aload_n 0, 1) := by decide +kernel
theorem dX8_remove_29 : decode cX8_remove 29 = .ok (.iload_n 1, 1) := by decide +kernel
theorem dX8_remove_30 : decode cX8_remove 30 = .ok (.invokevirtual 118, 3) := by decide +kernel
theorem dX8_remove_33 : decode cX8_remove 33 = .ok (.ifCond .ne 9, 3) := by decide +kernel
theorem dX8_remove_36 : decode cX8_remove 36 = .ok (.aload_n 0, 1) := by decide +kernel
theorem dX8_remove_37 : decode cX8_remove 37 = .ok (.iconst 2, 1) := by decide +kernel
theorem dX8_remove_38 : decode cX8_remove 38 = .ok (.invokevirtual 111, 3) := by decide +kernel
theorem dX8_remove_41 : decode cX8_remove 41 = .ok (.ireturn, 1) := by decide +kernel
theorem dX8_remove_42 : decode cX8_remove 42 = .ok (.aload_n 0, 1) := by decide +kernel
theorem dX8_remove_43 : decode cX8_remove 43 = .ok (.dup, 1) := by decide +kernel
theorem dX8_remove_44 : decode cX8_remove 44 = .ok (.getfield 99, 3) := by decide +kernel
theorem dX8_remove_47 : decode cX8_remove 47 = .ok (.iconst 1, 1) := by decide +kernel
theorem dX8_remove_48 : decode cX8_remove 48 = .ok (.isub, 1) := by decide +kernel
theorem dX8_remove_49 : decode cX8_remove 49 = .ok (.putfield 99, 3) := by decide +kernel
theorem dX8_remove_52 : decode cX8_remove 52 = .ok (.aload_n 0, 1) := by decide +kernel
theorem dX8_remove_53 : decode cX8_remove 53 = .ok (.iload_n 1, 1) := by decide +kernel
theorem dX8_remove_54 : decode cX8_remove 54 = .ok (.invokevirtual 102, 3) := by decide +kernel
theorem dX8_remove_57 : decode cX8_remove 57 = .ok (.istore_n 2, 1) := by decide +kernel
theorem dX8_remove_58 : decode cX8_remove 58 = .ok (.iload_n 2, 1) := by decide +kernel
theorem dX8_remove_59 : decode cX8_remove 59 = .ok (.aload_n 0, 1) := by decide +kernel
theorem dX8_remove_60 : decode cX8_remove 60 = .ok (.getfield 99, 3) := by decide +kernel
theorem dX8_remove_63 : decode cX8_remove 63 = .ok (.if_icmp .ge 23, 3) := by decide +kernel
theorem dX8_remove_66 : decode cX8_remove 66 = .ok (.aload_n 0, 1) := by decide +kernel
theorem dX8_remove_67 : decode cX8_remove 67 = .ok (.getfield 7, 3) := by decide +kernel
theorem dX8_remove_70 : decode cX8_remove 70 = .ok (.iload_n 2, 1) := by decide +kernel
theorem dX8_remove_71 : decode cX8_remove 71 = .ok (.aload_n 0, 1) := by decide +kernel
theorem dX8_remove_72 : decode cX8_remove 72 = .ok (.getfield 7, 3) := by decide +kernel
theorem dX8_remove_75 : decode cX8_remove 75 = .ok (.iload_n 2, 1) := by decide +kernel
theorem dX8_remove_76 : decode cX8_remove 76 = .ok (.iconst 1, 1) := by decide +kernel
theorem dX8_remove_77 : decode cX8_remove 77 = .ok (.iadd, 1) := by decide +kernel
theorem dX8_remove_78 : decode cX8_remove 78 = .ok (.iaload, 1) := by decide +kernel
theorem dX8_remove_79 : decode cX8_remove 79 = .ok (.iastore, 1) := by decide +kernel
theorem dX8_remove_80 : decode cX8_remove 80 = .ok (.iinc 2 1, 3) := by decide +kernel
theorem dX8_remove_83 : decode cX8_remove 83 = .ok (.goto (-25), 3) := by decide +kernel
theorem dX8_remove_86 : decode cX8_remove 86 = .ok (.aload_n 0, 1) := by decide +kernel
theorem dX8_remove_87 : decode cX8_remove 87 = .ok (.getfield 99, 3) := by decide +kernel
theorem dX8_remove_90 : decode cX8_remove 90 = .ok (.ireturn, 1) := by decide +kernel
theorem dX8_keys_0 : decode cX8_keys 0 = .ok (.aload_n 0, 1) := by decide +kernel
theorem dX8_keys_1 : decode cX8_keys 1 = .ok (.iconst 0, 1) := by decide +kernel
theorem dX8_keys_2 : decode cX8_keys 2 = .ok (.putfield 47, 3) := by decide +kernel
theorem dX8_keys_5 : decode cX8_keys 5 = .ok (.aload_n 0, 1) := by decide +kernel
theorem dX8_keys_6 : decode cX8_keys 6 = .ok (.getfield 99, 3) := by decide +kernel
theorem dX8_keys_9 : decode cX8_keys 9 = .ok (.ireturn, 1) := by decide +kernel
set_option maxRecDepth 20000 in
theorem ggX8_has_X8_in : GoodIn wsX8_has wsX8_in := goodIn_r _ [6] (by decide +kernel) (by decide +kernel)
set_option maxRecDepth 20000 in
theorem gX8_has_X8_in : GoodIn wsX8_has (va_wsS RX8 107 yX8_in wsX8_in) := goodIn_app (goodIn_of _ (by decide +kernel)) ggX8_has_X8_in
set_option maxRecDepth 20000 in
theorem ggX8_has_X8_fails : GoodIn wsX8_has wsX8_fails := goodIn_r _ [10, 1, 21, 22, 23, 24, 25, 26, 27, 28, 29, 30, 31, 32, 33, 34, 35, 36, 37, 38, 39, 40] (by decide +kernel) (by decide +kernel)
