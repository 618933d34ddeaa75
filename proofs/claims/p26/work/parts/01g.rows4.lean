set_option maxRecDepth 20000 in
theorem gX7_keepFingerprints_X7_fingerprintOf : GoodIn wsX7_keepFingerprints (wsV RX7 199 RX7 yX7_fingerprintOf wsX7_fingerprintOf) := goodIn_app (goodIn_of _ (by decide +kernel)) ggX7_keepFingerprints_X7_fingerprintOf
set_option maxRecDepth 20000 in
theorem ggX7_keepFingerprints_X6_set : GoodIn wsX7_keepFingerprints wsX6_set := goodIn_r _ [35, 14, 54] (by decide +kernel) (by decide +kernel)
set_option maxRecDepth 20000 in
theorem gX7_keepFingerprints_X6_set_n202 : GoodIn wsX7_keepFingerprints (wsX6_set) := ggX7_keepFingerprints_X6_set
theorem dX7_keepFingerprints_0 : decode cX7_keepFingerprints 0 = .ok (.aload_n 0, 1) := by decide +kernel
theorem dX7_keepFingerprints_1 : decode cX7_keepFingerprints 1 = .ok (.iconst 1, 1) := by decide +kernel
theorem dX7_keepFingerprints_2 : decode cX7_keepFingerprints 2 = .ok (.iload_n 1, 1) := by decide +kernel
theorem dX7_keepFingerprints_3 : decode cX7_keepFingerprints 3 = .ok (.ishl, 1) := by decide +kernel
theorem dX7_keepFingerprints_4 : decode cX7_keepFingerprints 4 = .ok (.iconst 1, 1) := by decide +kernel
theorem dX7_keepFingerprints_5 : decode cX7_keepFingerprints 5 = .ok (.isub, 1) := by decide +kernel
theorem dX7_keepFingerprints_6 : decode cX7_keepFingerprints 6 = .ok (.putfield 196, 3) := by decide +kernel
theorem dX7_keepFingerprints_9 : decode cX7_keepFingerprints 9 = .ok (.iconst 0, 1) := by decide +kernel
theorem dX7_keepFingerprints_10 : decode cX7_keepFingerprints 10 = .ok (.istore_n 2, 1) := by decide +kernel
theorem dX7_keepFingerprints_11 : decode cX7_keepFingerprints 11 = .ok (.iload_n 2, 1) := by decide +kernel
theorem dX7_keepFingerprints_12 : decode cX7_keepFingerprints 12 = .ok (.aload_n 0, 1) := by decide +kernel
theorem dX7_keepFingerprints_13 : decode cX7_keepFingerprints 13 = .ok (.getfield 10, 3) := by decide +kernel
theorem dX7_keepFingerprints_16 : decode cX7_keepFingerprints 16 = .ok (.getfield 69, 3) := by decide +kernel
theorem dX7_keepFingerprints_19 : decode cX7_keepFingerprints 19 = .ok (.if_icmp .ge 26, 3) := by decide +kernel
theorem dX7_keepFingerprints_22 : decode cX7_keepFingerprints 22 = .ok (.aload_n 0, 1) := by decide +kernel
theorem dX7_keepFingerprints_23 : decode cX7_keepFingerprints 23 = .ok (.getfield 42, 3) := by decide +kernel
theorem dX7_keepFingerprints_26 : decode cX7_keepFingerprints 26 = .ok (.iload_n 2, 1) := by decide +kernel
theorem dX7_keepFingerprints_27 : decode cX7_keepFingerprints 27 = .ok (.aload_n 0, 1) := by decide +kernel
theorem dX7_keepFingerprints_28 : decode cX7_keepFingerprints 28 = .ok (.aload_n 0, 1) := by decide +kernel
theorem dX7_keepFingerprints_29 : decode cX7_keepFingerprints 29 = .ok (.iload_n 2, 1) := by decide +kernel
theorem dX7_keepFingerprints_30 : decode cX7_keepFingerprints 30 = .ok (.invokevirtual 143, 3) := by decide +kernel
theorem dX7_keepFingerprints_33 : decode cX7_keepFingerprints 33 = .ok (.invokevirtual 199, 3) := by decide +kernel
theorem dX7_keepFingerprints_36 : decode cX7_keepFingerprints 36 = .ok (.invokevirtual 202, 3) := by decide +kernel
theorem dX7_keepFingerprints_39 : decode cX7_keepFingerprints 39 = .ok (.iinc 2 1, 3) := by decide +kernel
theorem dX7_keepFingerprints_42 : decode cX7_keepFingerprints 42 = .ok (.goto (-31), 3) := by decide +kernel
theorem dX7_keepFingerprints_45 : decode cX7_keepFingerprints 45 = .ok (.return_, 1) := by decide +kernel
set_option maxRecDepth 20000 in
theorem ggX7_fingerprintOf_X3_of : GoodIn wsX7_fingerprintOf wsX3_of := goodIn_r _ [7, 8, 9, 10, 11] (by decide +kernel) (by decide +kernel)
set_option maxRecDepth 20000 in
theorem gX7_fingerprintOf_X3_of_n211 : GoodIn wsX7_fingerprintOf (wsX3_of) := ggX7_fingerprintOf_X3_of
theorem dX7_fingerprintOf_0 : decode cX7_fingerprintOf 0 = .ok (.getstatic 205, 3) := by decide +kernel
theorem dX7_fingerprintOf_3 : decode cX7_fingerprintOf 3 = .ok (.iload_n 1, 1) := by decide +kernel
theorem dX7_fingerprintOf_4 : decode cX7_fingerprintOf 4 = .ok (.aload_n 0, 1) := by decide +kernel
theorem dX7_fingerprintOf_5 : decode cX7_fingerprintOf 5 = .ok (.getfield 19, 3) := by decide +kernel
theorem dX7_fingerprintOf_8 : decode cX7_fingerprintOf 8 = .ok (.getfield 129, 3) := by decide +kernel
theorem dX7_fingerprintOf_11 : decode cX7_fingerprintOf 11 = .ok (.invokevirtual 211, 3) := by decide +kernel
theorem dX7_fingerprintOf_14 : decode cX7_fingerprintOf 14 = .ok (.aload_n 0, 1) := by decide +kernel
theorem dX7_fingerprintOf_15 : decode cX7_fingerprintOf 15 = .ok (.getfield 196, 3) := by decide +kernel
theorem dX7_fingerprintOf_18 : decode cX7_fingerprintOf 18 = .ok (.iand, 1) := by decide +kernel
theorem dX7_fingerprintOf_19 : decode cX7_fingerprintOf 19 = .ok (.ireturn, 1) := by decide +kernel
set_option maxRecDepth 20000 in
theorem ggX7_keyWithNumber_X6_get : GoodIn wsX7_keyWithNumber wsX6_get := goodIn_r _ [6, 7, 29] (by decide +kernel) (by decide +kernel)
set_option maxRecDepth 20000 in
theorem gX7_keyWithNumber_X6_get_n146 : GoodIn wsX7_keyWithNumber (wsX6_get) := ggX7_keyWithNumber_X6_get
set_option maxRecDepth 20000 in
theorem ggX7_keyWithNumber_X4_at : GoodIn wsX7_keyWithNumber wsX4_at := goodIn_r _ [11, 12, 3, 4, 5, 6, 7, 30, 31, 29] (by decide +kernel) (by decide +kernel)
set_option maxRecDepth 20000 in
theorem gX7_keyWithNumber_X4_at_n90 : GoodIn wsX7_keyWithNumber (wsX4_at) := ggX7_keyWithNumber_X4_at
theorem dX7_keyWithNumber_0 : decode cX7_keyWithNumber 0 = .ok (.aload_n 0, 1) := by decide +kernel
theorem dX7_keyWithNumber_1 : decode cX7_keyWithNumber 1 = .ok (.getfield 10, 3) := by decide +kernel
theorem dX7_keyWithNumber_4 : decode cX7_keyWithNumber 4 = .ok (.aload_n 0, 1) := by decide +kernel
theorem dX7_keyWithNumber_5 : decode cX7_keyWithNumber 5 = .ok (.getfield 19, 3) := by decide +kernel
theorem dX7_keyWithNumber_8 : decode cX7_keyWithNumber 8 = .ok (.getfield 215, 3) := by decide +kernel
theorem dX7_keyWithNumber_11 : decode cX7_keyWithNumber 11 = .ok (.iload_n 1, 1) := by decide +kernel
theorem dX7_keyWithNumber_12 : decode cX7_keyWithNumber 12 = .ok (.invokevirtual 146, 3) := by decide +kernel
theorem dX7_keyWithNumber_15 : decode cX7_keyWithNumber 15 = .ok (.invokevirtual 90, 3) := by decide +kernel
theorem dX7_keyWithNumber_18 : decode cX7_keyWithNumber 18 = .ok (.ireturn, 1) := by decide +kernel
set_option maxRecDepth 20000 in
theorem ggX7_lookUp_X0_numberOf : GoodIn wsX7_lookUp wsX0_numberOf := goodIn_r _ [6, 7, 8, 9, 10, 11, 12, 13, 4, 14, 15, 16, 17, 18, 19, 20, 21, 22, 23, 24, 25, 26, 27, 28, 29, 30, 31, 32, 33, 34, 35, 36, 37, 51, 52, 53, 54, 55, 56, 57, 58, 59, 60] (by decide +kernel) (by decide +kernel)
set_option maxRecDepth 20000 in
theorem gX7_lookUp_X0_numberOf_n135 : GoodIn wsX7_lookUp (wsX0_numberOf) := ggX7_lookUp_X0_numberOf
set_option maxRecDepth 20000 in
theorem ggX7_lookUp_X6_get : GoodIn wsX7_lookUp wsX6_get := goodIn_r _ [31, 32, 60] (by decide +kernel) (by decide +kernel)
set_option maxRecDepth 20000 in
theorem gX7_lookUp_X6_get_n146 : GoodIn wsX7_lookUp (wsX6_get) := ggX7_lookUp_X6_get
set_option maxRecDepth 20000 in
theorem ggX7_lookUp_X7_fingerprintOf : GoodIn wsX7_lookUp wsX7_fingerprintOf := goodIn_r _ [41, 42, 1, 43, 17, 18, 19, 20, 21, 22, 23, 24, 44, 45, 46, 47, 48, 49, 50, 51, 52, 53, 54, 55, 56, 57, 58, 59] (by decide +kernel) (by decide +kernel)
set_option maxRecDepth 20000 in
theorem gX7_lookUp_X7_fingerprintOf : GoodIn wsX7_lookUp (wsV RX7 199 RX7 yX7_fingerprintOf wsX7_fingerprintOf) := goodIn_app (goodIn_of _ (by decide +kernel)) ggX7_lookUp_X7_fingerprintOf
theorem dX7_lookUp_0 : decode cX7_lookUp 0 = .ok (.aload_n 0, 1) := by decide +kernel
theorem dX7_lookUp_1 : decode cX7_lookUp 1 = .ok (.getfield 19, 3) := by decide +kernel
theorem dX7_lookUp_4 : decode cX7_lookUp 4 = .ok (.iload_n 1, 1) := by decide +kernel
theorem dX7_lookUp_5 : decode cX7_lookUp 5 = .ok (.invokevirtual 135, 3) := by decide +kernel
theorem dX7_lookUp_8 : decode cX7_lookUp 8 = .ok (.istore_n 2, 1) := by decide +kernel
theorem dX7_lookUp_9 : decode cX7_lookUp 9 = .ok (.aload_n 0, 1) := by decide +kernel
theorem dX7_lookUp_10 : decode cX7_lookUp 10 = .ok (.getfield 42, 3) := by decide +kernel
theorem dX7_lookUp_13 : decode cX7_lookUp 13 = .ok (.iload_n 2, 1) := by decide +kernel
theorem dX7_lookUp_14 : decode cX7_lookUp 14 = .ok (.invokevirtual 146, 3) := by decide +kernel
theorem dX7_lookUp_17 : decode cX7_lookUp 17 = .ok (.aload_n 0, 1) := by decide +kernel
theorem dX7_lookUp_18 : decode cX7_lookUp 18 = .ok (.iload_n 1, 1) := by decide +kernel
theorem dX7_lookUp_19 : decode cX7_lookUp 19 = .ok (.invokevirtual 199, 3) := by decide +kernel
theorem dX7_lookUp_22 : decode cX7_lookUp 22 = .ok (.if_icmp .ne 7, 3) := by decide +kernel
theorem dX7_lookUp_25 : decode cX7_lookUp 25 = .ok (.iload_n 2, 1) := by decide +kernel
theorem dX7_lookUp_26 : decode cX7_lookUp 26 = .ok (.goto 4, 3) := by decide +kernel
theorem dX7_lookUp_29 : decode cX7_lookUp 29 = .ok (.iconst (-1), 1) := by decide +kernel
theorem dX7_lookUp_30 : decode cX7_lookUp 30 = .ok (.ireturn, 1) := by decide +kernel
theorem dX7_remainder_0 : decode cX7_remainder 0 = .ok (.iload_n 1, 1) := by decide +kernel
theorem dX7_remainder_1 : decode cX7_remainder 1 = .ok (.ifCond .le 9, 3) := by decide +kernel
theorem dX7_remainder_4 : decode cX7_remainder 4 = .ok (.iload_n 0, 1) := by decide +kernel
theorem dX7_remainder_5 : decode cX7_remainder 5 = .ok (.iload_n 1, 1) := by decide +kernel
theorem dX7_remainder_6 : decode cX7_remainder 6 = .ok (.irem, 1) := by decide +kernel
theorem dX7_remainder_7 : decode cX7_remainder 7 = .ok (.goto 4, 3) := by decide +kernel
theorem dX7_remainder_10 : decode cX7_remainder 10 = .ok (.iconst 0, 1) := by decide +kernel
theorem dX7_remainder_11 : decode cX7_remainder 11 = .ok (.ireturn, 1) := by decide +kernel
theorem dX7_dividedUp_0 : decode cX7_dividedUp 0 = .ok (.iload_n 1, 1) := by decide +kernel
theorem dX7_dividedUp_1 : decode cX7_dividedUp 1 = .ok (.ifCond .le 13, 3) := by decide +kernel
theorem dX7_dividedUp_4 : decode cX7_dividedUp 4 = .ok (.iload_n 0, 1) := by decide +kernel
theorem dX7_dividedUp_5 : decode cX7_dividedUp 5 = .ok (.iload_n 1, 1) := by decide +kernel
theorem dX7_dividedUp_6 : decode cX7_dividedUp 6 = .ok (.iadd, 1) := by decide +kernel
theorem dX7_dividedUp_7 : decode cX7_dividedUp 7 = .ok (.iconst 1, 1) := by decide +kernel
theorem dX7_dividedUp_8 : decode cX7_dividedUp 8 = .ok (.isub, 1) := by decide +kernel
theorem dX7_dividedUp_9 : decode cX7_dividedUp 9 = .ok (.iload_n 1, 1) := by decide +kernel
theorem dX7_dividedUp_10 : decode cX7_dividedUp 10 = .ok (.idiv, 1) := by decide +kernel
theorem dX7_dividedUp_11 : decode cX7_dividedUp 11 = .ok (.goto 4, 3) := by decide +kernel
theorem dX7_dividedUp_14 : decode cX7_dividedUp 14 = .ok (.iconst 0, 1) := by decide +kernel
theorem dX7_dividedUp_15 : decode cX7_dividedUp 15 = .ok (.ireturn, 1) := by decide +kernel
theorem dJ9_max_7cf53_0 : decode cJ9_max_7cf53 0 = .ok (.iload_n 0, 1) := by decide +kernel
theorem dJ9_max_7cf53_1 : decode cJ9_max_7cf53 1 = .ok (.iload_n 1, 1) := by decide +kernel
theorem dJ9_max_7cf53_2 : decode cJ9_max_7cf53 2 = .ok (.if_icmp .lt 7, 3) := by decide +kernel
theorem dJ9_max_7cf53_5 : decode cJ9_max_7cf53 5 = .ok (.iload_n 0, 1) := by decide +kernel
theorem dJ9_max_7cf53_6 : decode cJ9_max_7cf53 6 = .ok (.goto 4, 3) := by decide +kernel
theorem dJ9_max_7cf53_9 : decode cJ9_max_7cf53 9 = .ok (.iload_n 1, 1) := by decide +kernel
theorem dJ9_max_7cf53_10 : decode cJ9_max_7cf53 10 = .ok (.ireturn, 1) := by decide +kernel
theorem dJ9_min_7cf53_0 : decode cJ9_min_7cf53 0 = .ok (.iload_n 0, 1) := by decide +kernel
theorem dJ9_min_7cf53_1 : decode cJ9_min_7cf53 1 = .ok (.iload_n 1, 1) := by decide +kernel
theorem dJ9_min_7cf53_2 : decode cJ9_min_7cf53 2 = .ok (.if_icmp .gt 7, 3) := by decide +kernel
theorem dJ9_min_7cf53_5 : decode cJ9_min_7cf53 5 = .ok (.iload_n 0, 1) := by decide +kernel
theorem dJ9_min_7cf53_6 : decode cJ9_min_7cf53 6 = .ok (.goto 4, 3) := by decide +kernel
theorem dJ9_min_7cf53_9 : decode cJ9_min_7cf53 9 = .ok (.iload_n 1, 1) := by decide +kernel
theorem dJ9_min_7cf53_10 : decode cJ9_min_7cf53 10 = .ok (.ireturn, 1) := by decide +kernel
theorem dJ7_fill_d0a16_0 : decode cJ7_fill_d0a16 0 = .ok (.iconst 0, 1) := by decide +kernel
theorem dJ7_fill_d0a16_1 : decode cJ7_fill_d0a16 1 = .ok (.istore_n 3, 1) := by decide +kernel
theorem dJ7_fill_d0a16_2 : decode cJ7_fill_d0a16 2 = .ok (.aload_n 0, 1) := by decide +kernel
theorem dJ7_fill_d0a16_3 : decode cJ7_fill_d0a16 3 = .ok (.arraylength, 1) := by decide +kernel
theorem dJ7_fill_d0a16_4 : decode cJ7_fill_d0a16 4 = .ok (.istore 4, 2) := by decide +kernel
theorem dJ7_fill_d0a16_6 : decode cJ7_fill_d0a16 6 = .ok (.iload_n 3, 1) := by decide +kernel
theorem dJ7_fill_d0a16_7 : decode cJ7_fill_d0a16 7 = .ok (.iload 4, 2) := by decide +kernel
theorem dJ7_fill_d0a16_9 : decode cJ7_fill_d0a16 9 = .ok (.if_icmp .ge 13, 3) := by decide +kernel
theorem dJ7_fill_d0a16_12 : decode cJ7_fill_d0a16 12 = .ok (.aload_n 0, 1) := by decide +kernel
theorem dJ7_fill_d0a16_13 : decode cJ7_fill_d0a16 13 = .ok (.iload_n 3, 1) := by decide +kernel
theorem dJ7_fill_d0a16_14 : decode cJ7_fill_d0a16 14 = .ok (.lload_n 1, 1) := by decide +kernel
theorem dJ7_fill_d0a16_15 : decode cJ7_fill_d0a16 15 = .ok (.lastore, 1) := by decide +kernel
theorem dJ7_fill_d0a16_16 : decode cJ7_fill_d0a16 16 = .ok (.iinc 3 1, 3) := by decide +kernel
theorem dJ7_fill_d0a16_19 : decode cJ7_fill_d0a16 19 = .ok (.goto (-13), 3) := by decide +kernel
theorem dJ7_fill_d0a16_22 : decode cJ7_fill_d0a16 22 = .ok (.return_, 1) := by decide +kernel
theorem dJ7_fill_53178_0 : decode cJ7_fill_53178 0 = .ok (.iconst 0, 1) := by decide +kernel
theorem dJ7_fill_53178_1 : decode cJ7_fill_53178 1 = .ok (.istore_n 2, 1) := by decide +kernel
theorem dJ7_fill_53178_2 : decode cJ7_fill_53178 2 = .ok (.aload_n 0, 1) := by decide +kernel
theorem dJ7_fill_53178_3 : decode cJ7_fill_53178 3 = .ok (.arraylength, 1) := by decide +kernel
theorem dJ7_fill_53178_4 : decode cJ7_fill_53178 4 = .ok (.istore_n 3, 1) := by decide +kernel
theorem dJ7_fill_53178_5 : decode cJ7_fill_53178 5 = .ok (.iload_n 2, 1) := by decide +kernel
theorem dJ7_fill_53178_6 : decode cJ7_fill_53178 6 = .ok (.iload_n 3, 1) := by decide +kernel
theorem dJ7_fill_53178_7 : decode cJ7_fill_53178 7 = .ok (.if_icmp .ge 13, 3) := by decide +kernel
theorem dJ7_fill_53178_10 : decode cJ7_fill_53178 10 = .ok (.aload_n 0, 1) := by decide +kernel
theorem dJ7_fill_53178_11 : decode cJ7_fill_53178 11 = .ok (.iload_n 2, 1) := by decide +kernel
theorem dJ7_fill_53178_12 : decode cJ7_fill_53178 12 = .ok (.iload_n 1, 1) := by decide +kernel
theorem dJ7_fill_53178_13 : decode cJ7_fill_53178 13 = .ok (.iastore, 1) := by decide +kernel
theorem dJ7_fill_53178_14 : decode cJ7_fill_53178 14 = .ok (.iinc 2 1, 3) := by decide +kernel
theorem dJ7_fill_53178_17 : decode cJ7_fill_53178 17 = .ok (.goto (-12), 3) := by decide +kernel
theorem dJ7_fill_53178_20 : decode cJ7_fill_53178 20 = .ok (.return_, 1) := by decide +kernel
theorem dL_cell_0 : decode cL_cell 0 = .ok (.iload_n 1, 1) := by decide +kernel
theorem dL_cell_1 : decode cL_cell 1 = .ok (.aload_n 0, 1) := by decide +kernel
theorem dL_cell_2 : decode cL_cell 2 = .ok (.arraylength, 1) := by decide +kernel
theorem dL_cell_3 : decode cL_cell 3 = .ok (.if_icmp .ge 9, 3) := by decide +kernel
theorem dL_cell_6 : decode cL_cell 6 = .ok (.aload_n 0, 1) := by decide +kernel
theorem dL_cell_7 : decode cL_cell 7 = .ok (.iload_n 1, 1) := by decide +kernel
theorem dL_cell_8 : decode cL_cell 8 = .ok (.iaload, 1) := by decide +kernel
theorem dL_cell_9 : decode cL_cell 9 = .ok (.goto 9, 3) := by decide +kernel
theorem dL_cell_12 : decode cL_cell 12 = .ok (.ldc 7, 2) := by decide +kernel
theorem dL_cell_14 : decode cL_cell 14 = .ok (.iload_n 1, 1) := by decide +kernel
theorem dL_cell_15 : decode cL_cell 15 = .ok (.iconst 1, 1) := by decide +kernel
theorem dL_cell_16 : decode cL_cell 16 = .ok (.iadd, 1) := by decide +kernel
theorem dL_cell_17 : decode cL_cell 17 = .ok (.imul, 1) := by decide +kernel
theorem dL_cell_18 : decode cL_cell 18 = .ok (.ireturn, 1) := by decide +kernel
theorem dL_at_0 : decode cL_at 0 = .ok (.iload_n 0, 1) := by decide +kernel
theorem dL_at_1 : decode cL_at 1 = .ok (.iconst 1, 1) := by decide +kernel
theorem dL_at_2 : decode cL_at 2 = .ok (.iushr, 1) := by decide +kernel
theorem dL_at_3 : decode cL_at 3 = .ok (.iload_n 1, 1) := by decide +kernel
theorem dL_at_4 : decode cL_at 4 = .ok (.irem, 1) := by decide +kernel
theorem dL_at_5 : decode cL_at 5 = .ok (.ireturn, 1) := by decide +kernel
theorem dL_hash_0 : decode cL_hash 0 = .ok (.lload_n 1, 1) := by decide +kernel
theorem dL_hash_1 : decode cL_hash 1 = .ok (.iload_n 0, 1) := by decide +kernel
theorem dL_hash_2 : decode cL_hash 2 = .ok (.ifCond .ne 9, 3) := by decide +kernel
theorem dL_hash_5 : decode cL_hash 5 = .ok (.ldc2_w 8, 3) := by decide +kernel
theorem dL_hash_8 : decode cL_hash 8 = .ok (.goto 50, 3) := by decide +kernel
theorem dL_hash_11 : decode cL_hash 11 = .ok (.iload_n 0, 1) := by decide +kernel
theorem dL_hash_12 : decode cL_hash 12 = .ok (.iconst 1, 1) := by decide +kernel
theorem dL_hash_13 : decode cL_hash 13 = .ok (.if_icmp .ne 9, 3) := by decide +kernel
theorem dL_hash_16 : decode cL_hash 16 = .ok (.ldc2_w 10, 3) := by decide +kernel
theorem dL_hash_19 : decode cL_hash 19 = .ok (.goto 39, 3) := by decide +kernel
theorem dL_hash_22 : decode cL_hash 22 = .ok (.iload_n 0, 1) := by decide +kernel
theorem dL_hash_23 : decode cL_hash 23 = .ok (.iconst 2, 1) := by decide +kernel
theorem dL_hash_24 : decode cL_hash 24 = .ok (.if_icmp .ne 9, 3) := by decide +kernel
theorem dL_hash_27 : decode cL_hash 27 = .ok (.ldc2_w 12, 3) := by decide +kernel
theorem dL_hash_30 : decode cL_hash 30 = .ok (.goto 28, 3) := by decide +kernel
theorem dL_hash_33 : decode cL_hash 33 = .ok (.iload_n 0, 1) := by decide +kernel
theorem dL_hash_34 : decode cL_hash 34 = .ok (.iconst 3, 1) := by decide +kernel
theorem dL_hash_35 : decode cL_hash 35 = .ok (.if_icmp .ne 9, 3) := by decide +kernel
theorem dL_hash_38 : decode cL_hash 38 = .ok (.ldc2_w 14, 3) := by decide +kernel
theorem dL_hash_41 : decode cL_hash 41 = .ok (.goto 17, 3) := by decide +kernel
theorem dL_hash_44 : decode cL_hash 44 = .ok (.iload_n 0, 1) := by decide +kernel
theorem dL_hash_45 : decode cL_hash 45 = .ok (.iconst 4, 1) := by decide +kernel
theorem dL_hash_46 : decode cL_hash 46 = .ok (.if_icmp .ne 9, 3) := by decide +kernel
theorem dL_hash_49 : decode cL_hash 49 = .ok (.ldc2_w 16, 3) := by decide +kernel
theorem dL_hash_52 : decode cL_hash 52 = .ok (.goto 6, 3) := by decide +kernel
theorem dL_hash_55 : decode cL_hash 55 = .ok (.ldc2_w 18, 3) := by decide +kernel
theorem dL_hash_58 : decode cL_hash 58 = .ok (.lmul, 1) := by decide +kernel
theorem dL_hash_59 : decode cL_hash 59 = .ok (.lstore 5, 2) := by decide +kernel
theorem dL_hash_61 : decode cL_hash 61 = .ok (.lload 5, 2) := by decide +kernel
theorem dL_hash_63 : decode cL_hash 63 = .ok (.lload_n 3, 1) := by decide +kernel
theorem dL_hash_64 : decode cL_hash 64 = .ok (.iload_n 0, 1) := by decide +kernel
theorem dL_hash_65 : decode cL_hash 65 = .ok (.ifCond .ne 9, 3) := by decide +kernel
theorem dL_hash_68 : decode cL_hash 68 = .ok (.ldc2_w 20, 3) := by decide +kernel
theorem dL_hash_71 : decode cL_hash 71 = .ok (.goto 50, 3) := by decide +kernel
theorem dL_hash_74 : decode cL_hash 74 = .ok (.iload_n 0, 1) := by decide +kernel
theorem dL_hash_75 : decode cL_hash 75 = .ok (.iconst 1, 1) := by decide +kernel
theorem dL_hash_76 : decode cL_hash 76 = .ok (.if_icmp .ne 9, 3) := by decide +kernel
theorem dL_hash_79 : decode cL_hash 79 = .ok (.ldc2_w 22, 3) := by decide +kernel
theorem dL_hash_82 : decode cL_hash 82 = .ok (.goto 39, 3) := by decide +kernel
theorem dL_hash_85 : decode cL_hash 85 = .ok (.iload_n 0, 1) := by decide +kernel
theorem dL_hash_86 : decode cL_hash 86 = .ok (.iconst 2, 1) := by decide +kernel
theorem dL_hash_87 : decode cL_hash 87 = .ok (.if_icmp .ne 9, 3) := by decide +kernel
theorem dL_hash_90 : decode cL_hash 90 = .ok (.ldc2_w 24, 3) := by decide +kernel
theorem dL_hash_93 : decode cL_hash 93 = .ok (.goto 28, 3) := by decide +kernel
theorem dL_hash_96 : decode cL_hash 96 = .ok (.iload_n 0, 1) := by decide +kernel
theorem dL_hash_97 : decode cL_hash 97 = .ok (.iconst 3, 1) := by decide +kernel
theorem dL_hash_98 : decode cL_hash 98 = .ok (.if_icmp .ne 9, 3) := by decide +kernel
theorem dL_hash_101 : decode cL_hash 101 = .ok (.ldc2_w 26, 3) := by decide +kernel
theorem dL_hash_104 : decode cL_hash 104 = .ok (.goto 17, 3) := by decide +kernel
theorem dL_hash_107 : decode cL_hash 107 = .ok (.iload_n 0, 1) := by decide +kernel
theorem dL_hash_108 : decode cL_hash 108 = .ok (.iconst 4, 1) := by decide +kernel
theorem dL_hash_109 : decode cL_hash 109 = .ok (.if_icmp .ne 9, 3) := by decide +kernel
theorem dL_hash_112 : decode cL_hash 112 = .ok (.ldc2_w 28, 3) := by decide +kernel
theorem dL_hash_115 : decode cL_hash 115 = .ok (.goto 6, 3) := by decide +kernel
theorem dL_hash_118 : decode cL_hash 118 = .ok (.ldc2_w 30, 3) := by decide +kernel
theorem dL_hash_121 : decode cL_hash 121 = .ok (.lmul, 1) := by decide +kernel
theorem dL_hash_122 : decode cL_hash 122 = .ok (.ladd, 1) := by decide +kernel
theorem dL_hash_123 : decode cL_hash 123 = .ok (.lstore 5, 2) := by decide +kernel
theorem dL_hash_125 : decode cL_hash 125 = .ok (.lload 5, 2) := by decide +kernel
theorem dL_hash_127 : decode cL_hash 127 = .ok (.iload_n 0, 1) := by decide +kernel
theorem dL_hash_128 : decode cL_hash 128 = .ok (.ifCond .ne 9, 3) := by decide +kernel
theorem dL_hash_131 : decode cL_hash 131 = .ok (.ldc2_w 32, 3) := by decide +kernel
theorem dL_hash_134 : decode cL_hash 134 = .ok (.goto 50, 3) := by decide +kernel
theorem dL_hash_137 : decode cL_hash 137 = .ok (.iload_n 0, 1) := by decide +kernel
theorem dL_hash_138 : decode cL_hash 138 = .ok (.iconst 1, 1) := by decide +kernel
theorem dL_hash_139 : decode cL_hash 139 = .ok (.if_icmp .ne 9, 3) := by decide +kernel
theorem dL_hash_142 : decode cL_hash 142 = .ok (.ldc2_w 34, 3) := by decide +kernel
theorem dL_hash_145 : decode cL_hash 145 = .ok (.goto 39, 3) := by decide +kernel
theorem dL_hash_148 : decode cL_hash 148 = .ok (.iload_n 0, 1) := by decide +kernel
theorem dL_hash_149 : decode cL_hash 149 = .ok (.iconst 2, 1) := by decide +kernel
theorem dL_hash_150 : decode cL_hash 150 = .ok (.if_icmp .ne 9, 3) := by decide +kernel
theorem dL_hash_153 : decode cL_hash 153 = .ok (.ldc2_w 36, 3) := by decide +kernel
theorem dL_hash_156 : decode cL_hash 156 = .ok (.goto 28, 3) := by decide +kernel
theorem dL_hash_159 : decode cL_hash 159 = .ok (.iload_n 0, 1) := by decide +kernel
theorem dL_hash_160 : decode cL_hash 160 = .ok (.iconst 3, 1) := by decide +kernel
theorem dL_hash_161 : decode cL_hash 161 = .ok (.if_icmp .ne 9, 3) := by decide +kernel
theorem dL_hash_164 : decode cL_hash 164 = .ok (.ldc2_w 38, 3) := by decide +kernel
theorem dL_hash_167 : decode cL_hash 167 = .ok (.goto 17, 3) := by decide +kernel
theorem dL_hash_170 : decode cL_hash 170 = .ok (.iload_n 0, 1) := by decide +kernel
theorem dL_hash_171 : decode cL_hash 171 = .ok (.iconst 4, 1) := by decide +kernel
theorem dL_hash_172 : decode cL_hash 172 = .ok (.if_icmp .ne 9, 3) := by decide +kernel
theorem dL_hash_175 : decode cL_hash 175 = .ok (.ldc2_w 40, 3) := by decide +kernel
theorem dL_hash_178 : decode cL_hash 178 = .ok (.goto 6, 3) := by decide +kernel
theorem dL_hash_181 : decode cL_hash 181 = .ok (.ldc2_w 42, 3) := by decide +kernel
theorem dL_hash_184 : decode cL_hash 184 = .ok (.ladd, 1) := by decide +kernel
theorem dL_hash_185 : decode cL_hash 185 = .ok (.ldc2_w 44, 3) := by decide +kernel
theorem dL_hash_188 : decode cL_hash 188 = .ok (.lrem, 1) := by decide +kernel
theorem dL_hash_189 : decode cL_hash 189 = .ok (.lreturn, 1) := by decide +kernel
theorem dL_ones_0 : decode cL_ones 0 = .ok (.iconst 0, 1) := by decide +kernel
theorem dL_ones_1 : decode cL_ones 1 = .ok (.istore_n 2, 1) := by decide +kernel
theorem dL_ones_2 : decode cL_ones 2 = .ok (.lload_n 0, 1) := by decide +kernel
theorem dL_ones_3 : decode cL_ones 3 = .ok (.lstore_n 3, 1) := by decide +kernel
theorem dL_ones_4 : decode cL_ones 4 = .ok (.lload_n 3, 1) := by decide +kernel
theorem dL_ones_5 : decode cL_ones 5 = .ok (.lconst 0, 1) := by decide +kernel
theorem dL_ones_6 : decode cL_ones 6 = .ok (.lcmp, 1) := by decide +kernel
theorem dL_ones_7 : decode cL_ones 7 = .ok (.ifCond .eq 17, 3) := by decide +kernel
theorem dL_ones_10 : decode cL_ones 10 = .ok (.iload_n 2, 1) := by decide +kernel
theorem dL_ones_11 : decode cL_ones 11 = .ok (.lload_n 3, 1) := by decide +kernel
theorem dL_ones_12 : decode cL_ones 12 = .ok (.lconst 1, 1) := by decide +kernel
theorem dL_ones_13 : decode cL_ones 13 = .ok (.land, 1) := by decide +kernel
theorem dL_ones_14 : decode cL_ones 14 = .ok (.l2i, 1) := by decide +kernel
theorem dL_ones_15 : decode cL_ones 15 = .ok (.iadd, 1) := by decide +kernel
theorem dL_ones_16 : decode cL_ones 16 = .ok (.istore_n 2, 1) := by decide +kernel
theorem dL_ones_17 : decode cL_ones 17 = .ok (.lload_n 3, 1) := by decide +kernel
theorem dL_ones_18 : decode cL_ones 18 = .ok (.iconst 1, 1) := by decide +kernel
theorem dL_ones_19 : decode cL_ones 19 = .ok (.lushr, 1) := by decide +kernel
theorem dL_ones_20 : decode cL_ones 20 = .ok (.lstore_n 3, 1) := by decide +kernel
theorem dL_ones_21 : decode cL_ones 21 = .ok (.goto (-17), 3) := by decide +kernel
theorem dL_ones_24 : decode cL_ones 24 = .ok (.iload_n 2, 1) := by decide +kernel
theorem dL_ones_25 : decode cL_ones 25 = .ok (.ireturn, 1) := by decide +kernel
set_option maxRecDepth 20000 in
theorem ggL_displaced_L_hash : GoodIn wsL_displaced wsL_hash := goodIn_r _ [5, 6, 7, 8, 9, 10, 11, 12, 13, 14, 15, 16, 17, 18, 19, 20, 21, 22, 23, 24] (by decide +kernel) (by decide +kernel)
set_option maxRecDepth 20000 in
theorem gL_displaced_L_hash : GoodIn wsL_displaced (va_wsS RL 46 yL_hash wsL_hash) := goodIn_app (goodIn_of _ (by decide +kernel)) ggL_displaced_L_hash
set_option maxRecDepth 20000 in
theorem ggL_displaced_L_ones : GoodIn wsL_displaced wsL_ones := goodIn_r _ [27] (by decide +kernel) (by decide +kernel)
set_option maxRecDepth 20000 in
theorem gL_displaced_L_ones : GoodIn wsL_displaced (va_wsS RL 52 yL_ones wsL_ones) := goodIn_app (goodIn_of _ (by decide +kernel)) ggL_displaced_L_ones
theorem dL_displaced_0 : decode cL_displaced 0 = .ok (.iconst 0, 1) := by decide +kernel
theorem dL_displaced_1 : decode cL_displaced 1 = .ok (.istore 4, 2) := by decide +kernel
theorem dL_displaced_3 : decode cL_displaced 3 = .ok (.iload 4, 2) := by decide +kernel
theorem dL_displaced_5 : decode cL_displaced 5 = .ok (.bipush 40, 2) := by decide +kernel
theorem dL_displaced_7 : decode cL_displaced 7 = .ok (.if_icmp .ge 295, 3) := by decide +kernel
theorem dL_displaced_10 : decode cL_displaced 10 = .ok (.lconst 0, 1) := by decide +kernel
theorem dL_displaced_11 : decode cL_displaced 11 = .ok (.lstore 5, 2) := by decide +kernel
theorem dL_displaced_13 : decode cL_displaced 13 = .ok (.iconst 1, 1) := by decide +kernel
theorem dL_displaced_14 : decode cL_displaced 14 = .ok (.istore 7, 2) := by decide +kernel
theorem dL_displaced_16 : decode cL_displaced 16 = .ok (.iconst 0, 1) := by decide +kernel
theorem dL_displaced_17 : decode cL_displaced 17 = .ok (.istore 8, 2) := by decide +kernel
theorem dL_displaced_19 : decode cL_displaced 19 = .ok (.iload 8, 2) := by decide +kernel
theorem dL_displaced_21 : decode cL_displaced 21 = .ok (.iload_n 0, 1) := by decide +kernel
theorem dL_displaced_22 : decode cL_displaced 22 = .ok (.if_icmp .ge 29, 3) := by decide +kernel
theorem dL_displaced_25 : decode cL_displaced 25 = .ok (.aload_n 3, 1) := by decide +kernel
theorem dL_displaced_26 : decode cL_displaced 26 = .ok (.iload 8, 2) := by decide +kernel
theorem dL_displaced_28 : decode cL_displaced 28 = .ok (.iconst 0, 1) := by decide +kernel
theorem dL_displaced_29 : decode cL_displaced 29 = .ok (.aload_n 2, 1) := by decide +kernel
theorem dL_displaced_30 : decode cL_displaced 30 = .ok (.iload 8, 2) := by decide +kernel
theorem dL_displaced_32 : decode cL_displaced 32 = .ok (.iaload, 1) := by decide +kernel
theorem dL_displaced_33 : decode cL_displaced 33 = .ok (.i2l, 1) := by decide +kernel
theorem dL_displaced_34 : decode cL_displaced 34 = .ok (.iload 4, 2) := by decide +kernel
theorem dL_displaced_36 : decode cL_displaced 36 = .ok (.i2l, 1) := by decide +kernel
theorem dL_displaced_37 : decode cL_displaced 37 = .ok (.invokestatic 46, 3) := by decide +kernel
theorem dL_displaced_40 : decode cL_displaced 40 = .ok (.iload_n 1, 1) := by decide +kernel
theorem dL_displaced_41 : decode cL_displaced 41 = .ok (.i2l, 1) := by decide +kernel
theorem dL_displaced_42 : decode cL_displaced 42 = .ok (.lrem, 1) := by decide +kernel
theorem dL_displaced_43 : decode cL_displaced 43 = .ok (.l2i, 1) := by decide +kernel
theorem dL_displaced_44 : decode cL_displaced 44 = .ok (.iastore, 1) := by decide +kernel
theorem dL_displaced_45 : decode cL_displaced 45 = .ok (.iinc 8 1, 3) := by decide +kernel
theorem dL_displaced_48 : decode cL_displaced 48 = .ok (.goto (-29), 3) := by decide +kernel
theorem dL_displaced_51 : decode cL_displaced 51 = .ok (.iload_n 0, 1) := by decide +kernel
theorem dL_displaced_52 : decode cL_displaced 52 = .ok (.istore 8, 2) := by decide +kernel
theorem dL_displaced_54 : decode cL_displaced 54 = .ok (.iload 8, 2) := by decide +kernel
theorem dL_displaced_56 : decode cL_displaced 56 = .ok (.ifCond .le 233, 3) := by decide +kernel
theorem dL_displaced_59 : decode cL_displaced 59 = .ok (.iload 7, 2) := by decide +kernel
theorem dL_displaced_61 : decode cL_displaced 61 = .ok (.ifCond .eq 228, 3) := by decide +kernel
theorem dL_displaced_64 : decode cL_displaced 64 = .ok (.iconst 0, 1) := by decide +kernel
theorem dL_displaced_65 : decode cL_displaced 65 = .ok (.istore 9, 2) := by decide +kernel
theorem dL_displaced_67 : decode cL_displaced 67 = .ok (.iload 9, 2) := by decide +kernel
theorem dL_displaced_69 : decode cL_displaced 69 = .ok (.iload_n 1, 1) := by decide +kernel
theorem dL_displaced_70 : decode cL_displaced 70 = .ok (.if_icmp .ge 213, 3) := by decide +kernel
theorem dL_displaced_73 : decode cL_displaced 73 = .ok (.iload 7, 2) := by decide +kernel
theorem dL_displaced_75 : decode cL_displaced 75 = .ok (.ifCond .eq 208, 3) := by decide +kernel
theorem dL_displaced_78 : decode cL_displaced 78 = .ok (.iconst 0, 1) := by decide +kernel
theorem dL_displaced_79 : decode cL_displaced 79 = .ok (.istore 10, 2) := by decide +kernel
theorem dL_displaced_81 : decode cL_displaced 81 = .ok (.iconst 0, 1) := by decide +kernel
theorem dL_displaced_82 : decode cL_displaced 82 = .ok (.istore 11, 2) := by decide +kernel
theorem dL_displaced_84 : decode cL_displaced 84 = .ok (.iload 11, 2) := by decide +kernel
theorem dL_displaced_86 : decode cL_displaced 86 = .ok (.iload_n 0, 1) := by decide +kernel
theorem dL_displaced_87 : decode cL_displaced 87 = .ok (.if_icmp .ge 28, 3) := by decide +kernel
theorem dL_displaced_90 : decode cL_displaced 90 = .ok (.iload 10, 2) := by decide +kernel
theorem dL_displaced_92 : decode cL_displaced 92 = .ok (.aload_n 3, 1) := by decide +kernel
theorem dL_displaced_93 : decode cL_displaced 93 = .ok (.iload 11, 2) := by decide +kernel
theorem dL_displaced_95 : decode cL_displaced 95 = .ok (.iaload, 1) := by decide +kernel
theorem dL_displaced_96 : decode cL_displaced 96 = .ok (.iload 9, 2) := by decide +kernel
theorem dL_displaced_98 : decode cL_displaced 98 = .ok (.if_icmp .ne 7, 3) := by decide +kernel
theorem dL_displaced_101 : decode cL_displaced 101 = .ok (.iconst 1, 1) := by decide +kernel
theorem dL_displaced_102 : decode cL_displaced 102 = .ok (.goto 4, 3) := by decide +kernel
theorem dL_displaced_105 : decode cL_displaced 105 = .ok (.iconst 0, 1) := by decide +kernel
theorem dL_displaced_106 : decode cL_displaced 106 = .ok (.iadd, 1) := by decide +kernel
theorem dL_displaced_107 : decode cL_displaced 107 = .ok (.istore 10, 2) := by decide +kernel
theorem dL_displaced_109 : decode cL_displaced 109 = .ok (.iinc 11 1, 3) := by decide +kernel
theorem dL_displaced_112 : decode cL_displaced 112 = .ok (.goto (-28), 3) := by decide +kernel
theorem dL_displaced_115 : decode cL_displaced 115 = .ok (.iload 10, 2) := by decide +kernel
theorem dL_displaced_117 : decode cL_displaced 117 = .ok (.iload 8, 2) := by decide +kernel
theorem dL_displaced_119 : decode cL_displaced 119 = .ok (.if_icmp .eq 6, 3) := by decide +kernel
theorem dL_displaced_122 : decode cL_displaced 122 = .ok (.goto 155, 3) := by decide +kernel
theorem dL_displaced_125 : decode cL_displaced 125 = .ok (.lconst 0, 1) := by decide +kernel
theorem dL_displaced_126 : decode cL_displaced 126 = .ok (.lstore 11, 2) := by decide +kernel
theorem dL_displaced_128 : decode cL_displaced 128 = .ok (.iconst 0, 1) := by decide +kernel
theorem dL_displaced_129 : decode cL_displaced 129 = .ok (.istore 13, 2) := by decide +kernel
theorem dL_displaced_131 : decode cL_displaced 131 = .ok (.iload 13, 2) := by decide +kernel
theorem dL_displaced_133 : decode cL_displaced 133 = .ok (.sipush 512, 3) := by decide +kernel
theorem dL_displaced_136 : decode cL_displaced 136 = .ok (.if_icmp .ge 117, 3) := by decide +kernel
theorem dL_displaced_139 : decode cL_displaced 139 = .ok (.lload 11, 2) := by decide +kernel
theorem dL_displaced_141 : decode cL_displaced 141 = .ok (.invokestatic 52, 3) := by decide +kernel
theorem dL_displaced_144 : decode cL_displaced 144 = .ok (.iload 8, 2) := by decide +kernel
theorem dL_displaced_146 : decode cL_displaced 146 = .ok (.if_icmp .eq 107, 3) := by decide +kernel
theorem dL_displaced_149 : decode cL_displaced 149 = .ok (.lconst 0, 1) := by decide +kernel
theorem dL_displaced_150 : decode cL_displaced 150 = .ok (.lstore 11, 2) := by decide +kernel
theorem dL_displaced_152 : decode cL_displaced 152 = .ok (.iconst 0, 1) := by decide +kernel
theorem dL_displaced_153 : decode cL_displaced 153 = .ok (.istore 14, 2) := by decide +kernel
theorem dL_displaced_155 : decode cL_displaced 155 = .ok (.iload 14, 2) := by decide +kernel
theorem dL_displaced_157 : decode cL_displaced 157 = .ok (.iload_n 0, 1) := by decide +kernel
theorem dL_displaced_158 : decode cL_displaced 158 = .ok (.if_icmp .ge 89, 3) := by decide +kernel
theorem dL_displaced_161 : decode cL_displaced 161 = .ok (.aload_n 3, 1) := by decide +kernel
theorem dL_displaced_162 : decode cL_displaced 162 = .ok (.iload 14, 2) := by decide +kernel
theorem dL_displaced_164 : decode cL_displaced 164 = .ok (.iaload, 1) := by decide +kernel
theorem dL_displaced_165 : decode cL_displaced 165 = .ok (.iload 9, 2) := by decide +kernel
theorem dL_displaced_167 : decode cL_displaced 167 = .ok (.if_icmp .ne 57, 3) := by decide +kernel
theorem dL_displaced_170 : decode cL_displaced 170 = .ok (.lconst 1, 1) := by decide +kernel
theorem dL_displaced_171 : decode cL_displaced 171 = .ok (.iconst 1, 1) := by decide +kernel
theorem dL_displaced_172 : decode cL_displaced 172 = .ok (.aload_n 2, 1) := by decide +kernel
theorem dL_displaced_173 : decode cL_displaced 173 = .ok (.iload 14, 2) := by decide +kernel
theorem dL_displaced_175 : decode cL_displaced 175 = .ok (.iaload, 1) := by decide +kernel
theorem dL_displaced_176 : decode cL_displaced 176 = .ok (.i2l, 1) := by decide +kernel
theorem dL_displaced_177 : decode cL_displaced 177 = .ok (.iload 4, 2) := by decide +kernel
theorem dL_displaced_179 : decode cL_displaced 179 = .ok (.i2l, 1) := by decide +kernel
theorem dL_displaced_180 : decode cL_displaced 180 = .ok (.invokestatic 46, 3) := by decide +kernel
theorem dL_displaced_183 : decode cL_displaced 183 = .ok (.iload 13, 2) := by decide +kernel
theorem dL_displaced_185 : decode cL_displaced 185 = .ok (.i2l, 1) := by decide +kernel
theorem dL_displaced_186 : decode cL_displaced 186 = .ok (.iload_n 0, 1) := by decide +kernel
theorem dL_displaced_187 : decode cL_displaced 187 = .ok (.iconst 1, 1) := by decide +kernel
theorem dL_displaced_188 : decode cL_displaced 188 = .ok (.if_icmp .ne 7, 3) := by decide +kernel
theorem dL_displaced_191 : decode cL_displaced 191 = .ok (.lconst 1, 1) := by decide +kernel
theorem dL_displaced_192 : decode cL_displaced 192 = .ok (.goto 22, 3) := by decide +kernel
theorem dL_displaced_195 : decode cL_displaced 195 = .ok (.lconst 1, 1) := by decide +kernel
theorem dL_displaced_196 : decode cL_displaced 196 = .ok (.iconst 2, 1) := by decide +kernel
theorem dL_displaced_197 : decode cL_displaced 197 = .ok (.aload_n 2, 1) := by decide +kernel
theorem dL_displaced_198 : decode cL_displaced 198 = .ok (.iload 14, 2) := by decide +kernel
theorem dL_displaced_200 : decode cL_displaced 200 = .ok (.iaload, 1) := by decide +kernel
theorem dL_displaced_201 : decode cL_displaced 201 = .ok (.i2l, 1) := by decide +kernel
theorem dL_displaced_202 : decode cL_displaced 202 = .ok (.iload 4, 2) := by decide +kernel
theorem dL_displaced_204 : decode cL_displaced 204 = .ok (.i2l, 1) := by decide +kernel
theorem dL_displaced_205 : decode cL_displaced 205 = .ok (.invokestatic 46, 3) := by decide +kernel
theorem dL_displaced_208 : decode cL_displaced 208 = .ok (.iload_n 0, 1) := by decide +kernel
theorem dL_displaced_209 : decode cL_displaced 209 = .ok (.iconst 1, 1) := by decide +kernel
theorem dL_displaced_210 : decode cL_displaced 210 = .ok (.isub, 1) := by decide +kernel
theorem dL_displaced_211 : decode cL_displaced 211 = .ok (.i2l, 1) := by decide +kernel
theorem dL_displaced_212 : decode cL_displaced 212 = .ok (.lrem, 1) := by decide +kernel
theorem dL_displaced_213 : decode cL_displaced 213 = .ok (.ladd, 1) := by decide +kernel
theorem dL_displaced_214 : decode cL_displaced 214 = .ok (.lmul, 1) := by decide +kernel
theorem dL_displaced_215 : decode cL_displaced 215 = .ok (.ladd, 1) := by decide +kernel
theorem dL_displaced_216 : decode cL_displaced 216 = .ok (.iload_n 0, 1) := by decide +kernel
theorem dL_displaced_217 : decode cL_displaced 217 = .ok (.i2l, 1) := by decide +kernel
theorem dL_displaced_218 : decode cL_displaced 218 = .ok (.lrem, 1) := by decide +kernel
theorem dL_displaced_219 : decode cL_displaced 219 = .ok (.l2i, 1) := by decide +kernel
theorem dL_displaced_220 : decode cL_displaced 220 = .ok (.lshl, 1) := by decide +kernel
theorem dL_displaced_221 : decode cL_displaced 221 = .ok (.goto 4, 3) := by decide +kernel
theorem dL_displaced_224 : decode cL_displaced 224 = .ok (.lconst 0, 1) := by decide +kernel
theorem dL_displaced_225 : decode cL_displaced 225 = .ok (.lstore 15, 2) := by decide +kernel
theorem dL_displaced_227 : decode cL_displaced 227 = .ok (.lload 11, 2) := by decide +kernel
theorem dL_displaced_229 : decode cL_displaced 229 = .ok (.lload 15, 2) := by decide +kernel
theorem dL_displaced_231 : decode cL_displaced 231 = .ok (.lload 5, 2) := by decide +kernel
theorem dL_displaced_233 : decode cL_displaced 233 = .ok (.ldc2_w 56, 3) := by decide +kernel
theorem dL_displaced_236 : decode cL_displaced 236 = .ok (.lxor, 1) := by decide +kernel
theorem dL_displaced_237 : decode cL_displaced 237 = .ok (.land, 1) := by decide +kernel
theorem dL_displaced_238 : decode cL_displaced 238 = .ok (.lor, 1) := by decide +kernel
theorem dL_displaced_239 : decode cL_displaced 239 = .ok (.lstore 11, 2) := by decide +kernel
theorem dL_displaced_241 : decode cL_displaced 241 = .ok (.iinc 14 1, 3) := by decide +kernel
theorem dL_displaced_244 : decode cL_displaced 244 = .ok (.goto (-89), 3) := by decide +kernel
theorem dL_displaced_247 : decode cL_displaced 247 = .ok (.iinc 13 1, 3) := by decide +kernel
theorem dL_displaced_250 : decode cL_displaced 250 = .ok (.goto (-119), 3) := by decide +kernel
theorem dL_displaced_253 : decode cL_displaced 253 = .ok (.lload 11, 2) := by decide +kernel
theorem dL_displaced_255 : decode cL_displaced 255 = .ok (.invokestatic 52, 3) := by decide +kernel
theorem dL_displaced_258 : decode cL_displaced 258 = .ok (.iload 8, 2) := by decide +kernel
theorem dL_displaced_260 : decode cL_displaced 260 = .ok (.if_icmp .ne 7, 3) := by decide +kernel
theorem dL_displaced_263 : decode cL_displaced 263 = .ok (.iconst 1, 1) := by decide +kernel
theorem dL_displaced_264 : decode cL_displaced 264 = .ok (.goto 4, 3) := by decide +kernel
theorem dL_displaced_267 : decode cL_displaced 267 = .ok (.iconst 0, 1) := by decide +kernel
theorem dL_displaced_268 : decode cL_displaced 268 = .ok (.istore 7, 2) := by decide +kernel
theorem dL_displaced_270 : decode cL_displaced 270 = .ok (.lload 5, 2) := by decide +kernel
theorem dL_displaced_272 : decode cL_displaced 272 = .ok (.lload 11, 2) := by decide +kernel
theorem dL_displaced_274 : decode cL_displaced 274 = .ok (.lor, 1) := by decide +kernel
theorem dL_displaced_275 : decode cL_displaced 275 = .ok (.lstore 5, 2) := by decide +kernel
theorem dL_displaced_277 : decode cL_displaced 277 = .ok (.iinc 9 1, 3) := by decide +kernel
theorem dL_displaced_280 : decode cL_displaced 280 = .ok (.goto (-213), 3) := by decide +kernel
theorem dL_displaced_283 : decode cL_displaced 283 = .ok (.iinc 8 (-1), 3) := by decide +kernel
theorem dL_displaced_286 : decode cL_displaced 286 = .ok (.goto (-232), 3) := by decide +kernel
theorem dL_displaced_289 : decode cL_displaced 289 = .ok (.iload 7, 2) := by decide +kernel
theorem dL_displaced_291 : decode cL_displaced 291 = .ok (.ifCond .eq 5, 3) := by decide +kernel
theorem dL_displaced_294 : decode cL_displaced 294 = .ok (.iconst 1, 1) := by decide +kernel
theorem dL_displaced_295 : decode cL_displaced 295 = .ok (.ireturn, 1) := by decide +kernel
theorem dL_displaced_296 : decode cL_displaced 296 = .ok (.iinc 4 1, 3) := by decide +kernel
theorem dL_displaced_299 : decode cL_displaced 299 = .ok (.goto (-296), 3) := by decide +kernel
theorem dL_displaced_302 : decode cL_displaced 302 = .ok (.iconst 0, 1) := by decide +kernel
theorem dL_displaced_303 : decode cL_displaced 303 = .ok (.ireturn, 1) := by decide +kernel
set_option maxRecDepth 20000 in
theorem ggL_joined_L_hash : GoodIn wsL_joined wsL_hash := goodIn_r _ [4, 5, 6, 7, 8, 9, 10, 11, 12, 13, 14, 15, 16, 17, 18, 19, 20, 21, 22, 23] (by decide +kernel) (by decide +kernel)
set_option maxRecDepth 20000 in
theorem gL_joined_L_hash : GoodIn wsL_joined (va_wsS RL 46 yL_hash wsL_hash) := goodIn_app (goodIn_of _ (by decide +kernel)) ggL_joined_L_hash
theorem dL_joined_0 : decode cL_joined 0 = .ok (.iconst 0, 1) := by decide +kernel
theorem dL_joined_1 : decode cL_joined 1 = .ok (.istore_n 3, 1) := by decide +kernel
theorem dL_joined_2 : decode cL_joined 2 = .ok (.iload_n 3, 1) := by decide +kernel
theorem dL_joined_3 : decode cL_joined 3 = .ok (.sipush 200, 3) := by decide +kernel
theorem dL_joined_6 : decode cL_joined 6 = .ok (.if_icmp .ge 157, 3) := by decide +kernel
theorem dL_joined_9 : decode cL_joined 9 = .ok (.iconst 1, 1) := by decide +kernel
theorem dL_joined_10 : decode cL_joined 10 = .ok (.istore 4, 2) := by decide +kernel
theorem dL_joined_12 : decode cL_joined 12 = .ok (.iconst 0, 1) := by decide +kernel
theorem dL_joined_13 : decode cL_joined 13 = .ok (.istore 5, 2) := by decide +kernel
theorem dL_joined_15 : decode cL_joined 15 = .ok (.iload 5, 2) := by decide +kernel
theorem dL_joined_17 : decode cL_joined 17 = .ok (.iconst 3, 1) := by decide +kernel
theorem dL_joined_18 : decode cL_joined 18 = .ok (.iload_n 0, 1) := by decide +kernel
theorem dL_joined_19 : decode cL_joined 19 = .ok (.imul, 1) := by decide +kernel
theorem dL_joined_20 : decode cL_joined 20 = .ok (.if_icmp .ge 15, 3) := by decide +kernel
theorem dL_joined_23 : decode cL_joined 23 = .ok (.aload_n 2, 1) := by decide +kernel
theorem dL_joined_24 : decode cL_joined 24 = .ok (.iload 5, 2) := by decide +kernel
theorem dL_joined_26 : decode cL_joined 26 = .ok (.iload 5, 2) := by decide +kernel
theorem dL_joined_28 : decode cL_joined 28 = .ok (.iastore, 1) := by decide +kernel
theorem dL_joined_29 : decode cL_joined 29 = .ok (.iinc 5 1, 3) := by decide +kernel
theorem dL_joined_32 : decode cL_joined 32 = .ok (.goto (-17), 3) := by decide +kernel
theorem dL_joined_35 : decode cL_joined 35 = .ok (.iconst 0, 1) := by decide +kernel
theorem dL_joined_36 : decode cL_joined 36 = .ok (.istore 5, 2) := by decide +kernel
theorem dL_joined_38 : decode cL_joined 38 = .ok (.iload 5, 2) := by decide +kernel
theorem dL_joined_40 : decode cL_joined 40 = .ok (.iload_n 0, 1) := by decide +kernel
theorem dL_joined_41 : decode cL_joined 41 = .ok (.if_icmp .ge 109, 3) := by decide +kernel
theorem dL_joined_44 : decode cL_joined 44 = .ok (.iload 4, 2) := by decide +kernel
theorem dL_joined_46 : decode cL_joined 46 = .ok (.ifCond .eq 104, 3) := by decide +kernel
theorem dL_joined_49 : decode cL_joined 49 = .ok (.aload_n 2, 1) := by decide +kernel
theorem dL_joined_50 : decode cL_joined 50 = .ok (.iconst 4, 1) := by decide +kernel
theorem dL_joined_51 : decode cL_joined 51 = .ok (.aload_n 1, 1) := by decide +kernel
theorem dL_joined_52 : decode cL_joined 52 = .ok (.iload 5, 2) := by decide +kernel
theorem dL_joined_54 : decode cL_joined 54 = .ok (.iaload, 1) := by decide +kernel
theorem dL_joined_55 : decode cL_joined 55 = .ok (.i2l, 1) := by decide +kernel
theorem dL_joined_56 : decode cL_joined 56 = .ok (.iload_n 3, 1) := by decide +kernel
theorem dL_joined_57 : decode cL_joined 57 = .ok (.i2l, 1) := by decide +kernel
theorem dL_joined_58 : decode cL_joined 58 = .ok (.invokestatic 46, 3) := by decide +kernel
theorem dL_joined_61 : decode cL_joined 61 = .ok (.iconst 3, 1) := by decide +kernel
theorem dL_joined_62 : decode cL_joined 62 = .ok (.iload_n 0, 1) := by decide +kernel
theorem dL_joined_63 : decode cL_joined 63 = .ok (.imul, 1) := by decide +kernel
theorem dL_joined_64 : decode cL_joined 64 = .ok (.i2l, 1) := by decide +kernel
theorem dL_joined_65 : decode cL_joined 65 = .ok (.lrem, 1) := by decide +kernel
theorem dL_joined_66 : decode cL_joined 66 = .ok (.l2i, 1) := by decide +kernel
theorem dL_joined_67 : decode cL_joined 67 = .ok (.iaload, 1) := by decide +kernel
theorem dL_joined_68 : decode cL_joined 68 = .ok (.istore 6, 2) := by decide +kernel
theorem dL_joined_70 : decode cL_joined 70 = .ok (.aload_n 2, 1) := by decide +kernel
