section
-- ===== PART A: goes FIRST, ahead of the names: the tables' words, and 'selects' of the private methods out of them =====
/-- a private method of a class that the tables say can be made, by its rows of tables_1 -/
def lw_okq (q : MethodName × Nat) : Prop := (q.1.cls ≠ "java/lang/invoke/MethodHandle" ∧ q.1.cls ≠ "java/lang/invoke/VarHandle") ∧ Cond.instantiable q.1.cls q.2 ∈ tables_1 ∧ Cond.privateMethod q.1 ∈ tables_1 ∧ Cond.instanceMethod q.1 ∈ tables_1
theorem lw_p0 : lw_okq (⟨"java/lang/Throwable", "fillInStackTrace", "(I)Ljava/lang/Throwable;"⟩, 6) := ⟨⟨by decide +kernel, by decide +kernel⟩, List.mem_of_getElem? (i := 263) (by decide +kernel), List.mem_of_getElem? (i := 261) (by decide +kernel), List.mem_of_getElem? (i := 262) (by decide +kernel)⟩
theorem lw_p1 : lw_okq (⟨"PerfectPew", "requireOpen", "()V"⟩, 7) := ⟨⟨by decide +kernel, by decide +kernel⟩, List.mem_of_getElem? (i := 20) (by decide +kernel), List.mem_of_getElem? (i := 293) (by decide +kernel), List.mem_of_getElem? (i := 294) (by decide +kernel)⟩
theorem lw_p2 : lw_okq (⟨"PerfectPew$KeyList", "holds", "(I)Z"⟩, 2) := ⟨⟨by decide +kernel, by decide +kernel⟩, List.mem_of_getElem? (i := 28) (by decide +kernel), List.mem_of_getElem? (i := 313) (by decide +kernel), List.mem_of_getElem? (i := 314) (by decide +kernel)⟩
theorem lw_p3 : lw_okq (⟨"PerfectPew$KeyList", "rankOf", "(I)I"⟩, 2) := ⟨⟨by decide +kernel, by decide +kernel⟩, List.mem_of_getElem? (i := 28) (by decide +kernel), List.mem_of_getElem? (i := 317) (by decide +kernel), List.mem_of_getElem? (i := 318) (by decide +kernel)⟩
theorem lw_p4 : lw_okq (⟨"PerfectPew$Row", "get", "(I)I"⟩, 1) := ⟨⟨by decide +kernel, by decide +kernel⟩, List.mem_of_getElem? (i := 34) (by decide +kernel), List.mem_of_getElem? (i := 321) (by decide +kernel), List.mem_of_getElem? (i := 322) (by decide +kernel)⟩
theorem lw_p5 : lw_okq (⟨"PerfectPew", "requireRoomFor", "(I)V"⟩, 7) := ⟨⟨by decide +kernel, by decide +kernel⟩, List.mem_of_getElem? (i := 20) (by decide +kernel), List.mem_of_getElem? (i := 326) (by decide +kernel), List.mem_of_getElem? (i := 327) (by decide +kernel)⟩
theorem lw_p6 : lw_okq (⟨"PerfectPew$KeyList", "insert", "(I)V"⟩, 2) := ⟨⟨by decide +kernel, by decide +kernel⟩, List.mem_of_getElem? (i := 28) (by decide +kernel), List.mem_of_getElem? (i := 331) (by decide +kernel), List.mem_of_getElem? (i := 332) (by decide +kernel)⟩
theorem lw_p7 : lw_okq (⟨"PerfectPew$Row", "set", "(II)V"⟩, 1) := ⟨⟨by decide +kernel, by decide +kernel⟩, List.mem_of_getElem? (i := 34) (by decide +kernel), List.mem_of_getElem? (i := 335) (by decide +kernel), List.mem_of_getElem? (i := 336) (by decide +kernel)⟩
theorem lw_p8 : lw_okq (⟨"PerfectPew", "newInLine", "(III)I"⟩, 7) := ⟨⟨by decide +kernel, by decide +kernel⟩, List.mem_of_getElem? (i := 20) (by decide +kernel), List.mem_of_getElem? (i := 351) (by decide +kernel), List.mem_of_getElem? (i := 352) (by decide +kernel)⟩
theorem lw_p9 : lw_okq (⟨"PerfectPew$KeyList", "delete", "(I)V"⟩, 2) := ⟨⟨by decide +kernel, by decide +kernel⟩, List.mem_of_getElem? (i := 28) (by decide +kernel), List.mem_of_getElem? (i := 363) (by decide +kernel), List.mem_of_getElem? (i := 364) (by decide +kernel)⟩
theorem lw_p10 : lw_okq (⟨"PerfectPew$KeyList", "at", "(I)I"⟩, 2) := ⟨⟨by decide +kernel, by decide +kernel⟩, List.mem_of_getElem? (i := 28) (by decide +kernel), List.mem_of_getElem? (i := 401) (by decide +kernel), List.mem_of_getElem? (i := 402) (by decide +kernel)⟩
theorem lw_p11 : lw_okq (⟨"PerfectPew$Displacer", "settle", "(LPerfectPew$KeyList;I)Z"⟩, 9) := ⟨⟨by decide +kernel, by decide +kernel⟩, List.mem_of_getElem? (i := 58) (by decide +kernel), List.mem_of_getElem? (i := 415) (by decide +kernel), List.mem_of_getElem? (i := 416) (by decide +kernel)⟩
theorem lw_p12 : lw_okq (⟨"PerfectPew$Displacer", "hashKeys", "(LPerfectPew$KeyList;)V"⟩, 9) := ⟨⟨by decide +kernel, by decide +kernel⟩, List.mem_of_getElem? (i := 58) (by decide +kernel), List.mem_of_getElem? (i := 422) (by decide +kernel), List.mem_of_getElem? (i := 423) (by decide +kernel)⟩
theorem lw_p13 : lw_okq (⟨"PerfectPew$Groups", "restart", "(II)V"⟩, 5) := ⟨⟨by decide +kernel, by decide +kernel⟩, List.mem_of_getElem? (i := 64) (by decide +kernel), List.mem_of_getElem? (i := 426) (by decide +kernel), List.mem_of_getElem? (i := 427) (by decide +kernel)⟩
theorem lw_p14 : lw_okq (⟨"PerfectPew$Row", "fill", "(I)V"⟩, 1) := ⟨⟨by decide +kernel, by decide +kernel⟩, List.mem_of_getElem? (i := 34) (by decide +kernel), List.mem_of_getElem? (i := 430) (by decide +kernel), List.mem_of_getElem? (i := 431) (by decide +kernel)⟩
theorem lw_p15 : lw_okq (⟨"PerfectPew$Displacer", "bucketOf", "(I)I"⟩, 9) := ⟨⟨by decide +kernel, by decide +kernel⟩, List.mem_of_getElem? (i := 58) (by decide +kernel), List.mem_of_getElem? (i := 438) (by decide +kernel), List.mem_of_getElem? (i := 439) (by decide +kernel)⟩
def lw_privs_1 : List (MethodName × Nat) := [(⟨"java/lang/Throwable", "fillInStackTrace", "(I)Ljava/lang/Throwable;"⟩, 6), (⟨"PerfectPew", "requireOpen", "()V"⟩, 7), (⟨"PerfectPew$KeyList", "holds", "(I)Z"⟩, 2), (⟨"PerfectPew$KeyList", "rankOf", "(I)I"⟩, 2), (⟨"PerfectPew$Row", "get", "(I)I"⟩, 1), (⟨"PerfectPew", "requireRoomFor", "(I)V"⟩, 7), (⟨"PerfectPew$KeyList", "insert", "(I)V"⟩, 2), (⟨"PerfectPew$Row", "set", "(II)V"⟩, 1), (⟨"PerfectPew", "newInLine", "(III)I"⟩, 7), (⟨"PerfectPew$KeyList", "delete", "(I)V"⟩, 2), (⟨"PerfectPew$KeyList", "at", "(I)I"⟩, 2), (⟨"PerfectPew$Displacer", "settle", "(LPerfectPew$KeyList;I)Z"⟩, 9), (⟨"PerfectPew$Displacer", "hashKeys", "(LPerfectPew$KeyList;)V"⟩, 9), (⟨"PerfectPew$Groups", "restart", "(II)V"⟩, 5), (⟨"PerfectPew$Row", "fill", "(I)V"⟩, 1), (⟨"PerfectPew$Displacer", "bucketOf", "(I)I"⟩, 9)]
theorem lw_r1 : ∀ q ∈ lw_privs_1, lw_okq q := List.forall_mem_cons.mpr ⟨lw_p0, List.forall_mem_cons.mpr ⟨lw_p1, List.forall_mem_cons.mpr ⟨lw_p2, List.forall_mem_cons.mpr ⟨lw_p3, List.forall_mem_cons.mpr ⟨lw_p4, List.forall_mem_cons.mpr ⟨lw_p5, List.forall_mem_cons.mpr ⟨lw_p6, List.forall_mem_cons.mpr ⟨lw_p7, List.forall_mem_cons.mpr ⟨lw_p8, List.forall_mem_cons.mpr ⟨lw_p9, List.forall_mem_cons.mpr ⟨lw_p10, List.forall_mem_cons.mpr ⟨lw_p11, List.forall_mem_cons.mpr ⟨lw_p12, List.forall_mem_cons.mpr ⟨lw_p13, List.forall_mem_cons.mpr ⟨lw_p14, List.forall_mem_cons.mpr ⟨lw_p15, fun _ h => absurd h List.not_mem_nil⟩⟩⟩⟩⟩⟩⟩⟩⟩⟩⟩⟩⟩⟩⟩⟩
theorem lw_p16 : lw_okq (⟨"PerfectPew$Hash", "of", "(II)I"⟩, 6) := ⟨⟨by decide +kernel, by decide +kernel⟩, List.mem_of_getElem? (i := 446) (by decide +kernel), List.mem_of_getElem? (i := 444) (by decide +kernel), List.mem_of_getElem? (i := 445) (by decide +kernel)⟩
theorem lw_p17 : lw_okq (⟨"PerfectPew$Groups", "assign", "(II)V"⟩, 5) := ⟨⟨by decide +kernel, by decide +kernel⟩, List.mem_of_getElem? (i := 64) (by decide +kernel), List.mem_of_getElem? (i := 453) (by decide +kernel), List.mem_of_getElem? (i := 454) (by decide +kernel)⟩
theorem lw_p18 : lw_okq (⟨"PerfectPew$Displacer", "stepOf", "(I)I"⟩, 9) := ⟨⟨by decide +kernel, by decide +kernel⟩, List.mem_of_getElem? (i := 58) (by decide +kernel), List.mem_of_getElem? (i := 462) (by decide +kernel), List.mem_of_getElem? (i := 463) (by decide +kernel)⟩
theorem lw_p19 : lw_okq (⟨"PerfectPew$Groups", "arrange", "()V"⟩, 5) := ⟨⟨by decide +kernel, by decide +kernel⟩, List.mem_of_getElem? (i := 64) (by decide +kernel), List.mem_of_getElem? (i := 468) (by decide +kernel), List.mem_of_getElem? (i := 469) (by decide +kernel)⟩
theorem lw_p20 : lw_okq (⟨"PerfectPew$Displacer", "displaceAll", "()Z"⟩, 9) := ⟨⟨by decide +kernel, by decide +kernel⟩, List.mem_of_getElem? (i := 58) (by decide +kernel), List.mem_of_getElem? (i := 472) (by decide +kernel), List.mem_of_getElem? (i := 473) (by decide +kernel)⟩
theorem lw_p21 : lw_okq (⟨"PerfectPew$Displacer", "largestBucket", "()I"⟩, 9) := ⟨⟨by decide +kernel, by decide +kernel⟩, List.mem_of_getElem? (i := 58) (by decide +kernel), List.mem_of_getElem? (i := 477) (by decide +kernel), List.mem_of_getElem? (i := 478) (by decide +kernel)⟩
theorem lw_p22 : lw_okq (⟨"PerfectPew$Groups", "sizeOf", "(I)I"⟩, 5) := ⟨⟨by decide +kernel, by decide +kernel⟩, List.mem_of_getElem? (i := 64) (by decide +kernel), List.mem_of_getElem? (i := 481) (by decide +kernel), List.mem_of_getElem? (i := 482) (by decide +kernel)⟩
theorem lw_p23 : lw_okq (⟨"PerfectPew$Groups", "endOf", "(I)I"⟩, 5) := ⟨⟨by decide +kernel, by decide +kernel⟩, List.mem_of_getElem? (i := 64) (by decide +kernel), List.mem_of_getElem? (i := 485) (by decide +kernel), List.mem_of_getElem? (i := 486) (by decide +kernel)⟩
theorem lw_p24 : lw_okq (⟨"PerfectPew$Groups", "beginOf", "(I)I"⟩, 5) := ⟨⟨by decide +kernel, by decide +kernel⟩, List.mem_of_getElem? (i := 64) (by decide +kernel), List.mem_of_getElem? (i := 489) (by decide +kernel), List.mem_of_getElem? (i := 490) (by decide +kernel)⟩
theorem lw_p25 : lw_okq (⟨"PerfectPew$Displacer", "displace", "(I)Z"⟩, 9) := ⟨⟨by decide +kernel, by decide +kernel⟩, List.mem_of_getElem? (i := 58) (by decide +kernel), List.mem_of_getElem? (i := 494) (by decide +kernel), List.mem_of_getElem? (i := 495) (by decide +kernel)⟩
theorem lw_p26 : lw_okq (⟨"PerfectPew$Displacer", "place", "(II)Z"⟩, 9) := ⟨⟨by decide +kernel, by decide +kernel⟩, List.mem_of_getElem? (i := 58) (by decide +kernel), List.mem_of_getElem? (i := 501) (by decide +kernel), List.mem_of_getElem? (i := 502) (by decide +kernel)⟩
theorem lw_p27 : lw_okq (⟨"PerfectPew$Groups", "memberAt", "(I)I"⟩, 5) := ⟨⟨by decide +kernel, by decide +kernel⟩, List.mem_of_getElem? (i := 64) (by decide +kernel), List.mem_of_getElem? (i := 507) (by decide +kernel), List.mem_of_getElem? (i := 508) (by decide +kernel)⟩
theorem lw_p28 : lw_okq (⟨"PerfectPew$Displacer", "numberWith", "(II)I"⟩, 9) := ⟨⟨by decide +kernel, by decide +kernel⟩, List.mem_of_getElem? (i := 58) (by decide +kernel), List.mem_of_getElem? (i := 511) (by decide +kernel), List.mem_of_getElem? (i := 512) (by decide +kernel)⟩
theorem lw_p29 : lw_okq (⟨"PerfectPew$Displacer", "takeBack", "(II)V"⟩, 9) := ⟨⟨by decide +kernel, by decide +kernel⟩, List.mem_of_getElem? (i := 58) (by decide +kernel), List.mem_of_getElem? (i := 516) (by decide +kernel), List.mem_of_getElem? (i := 517) (by decide +kernel)⟩
theorem lw_p30 : lw_okq (⟨"PerfectPew$Graph", "settle", "(LPerfectPew$KeyList;)Z"⟩, 8) := ⟨⟨by decide +kernel, by decide +kernel⟩, List.mem_of_getElem? (i := 142) (by decide +kernel), List.mem_of_getElem? (i := 520) (by decide +kernel), List.mem_of_getElem? (i := 521) (by decide +kernel)⟩
theorem lw_p31 : lw_okq (⟨"PerfectPew$Graph", "layEdges", "(LPerfectPew$KeyList;)V"⟩, 8) := ⟨⟨by decide +kernel, by decide +kernel⟩, List.mem_of_getElem? (i := 142) (by decide +kernel), List.mem_of_getElem? (i := 524) (by decide +kernel), List.mem_of_getElem? (i := 525) (by decide +kernel)⟩
def lw_privs_2 : List (MethodName × Nat) := [(⟨"PerfectPew$Hash", "of", "(II)I"⟩, 6), (⟨"PerfectPew$Groups", "assign", "(II)V"⟩, 5), (⟨"PerfectPew$Displacer", "stepOf", "(I)I"⟩, 9), (⟨"PerfectPew$Groups", "arrange", "()V"⟩, 5), (⟨"PerfectPew$Displacer", "displaceAll", "()Z"⟩, 9), (⟨"PerfectPew$Displacer", "largestBucket", "()I"⟩, 9), (⟨"PerfectPew$Groups", "sizeOf", "(I)I"⟩, 5), (⟨"PerfectPew$Groups", "endOf", "(I)I"⟩, 5), (⟨"PerfectPew$Groups", "beginOf", "(I)I"⟩, 5), (⟨"PerfectPew$Displacer", "displace", "(I)Z"⟩, 9), (⟨"PerfectPew$Displacer", "place", "(II)Z"⟩, 9), (⟨"PerfectPew$Groups", "memberAt", "(I)I"⟩, 5), (⟨"PerfectPew$Displacer", "numberWith", "(II)I"⟩, 9), (⟨"PerfectPew$Displacer", "takeBack", "(II)V"⟩, 9), (⟨"PerfectPew$Graph", "settle", "(LPerfectPew$KeyList;)Z"⟩, 8), (⟨"PerfectPew$Graph", "layEdges", "(LPerfectPew$KeyList;)V"⟩, 8)]
theorem lw_r2 : ∀ q ∈ lw_privs_2, lw_okq q := List.forall_mem_cons.mpr ⟨lw_p16, List.forall_mem_cons.mpr ⟨lw_p17, List.forall_mem_cons.mpr ⟨lw_p18, List.forall_mem_cons.mpr ⟨lw_p19, List.forall_mem_cons.mpr ⟨lw_p20, List.forall_mem_cons.mpr ⟨lw_p21, List.forall_mem_cons.mpr ⟨lw_p22, List.forall_mem_cons.mpr ⟨lw_p23, List.forall_mem_cons.mpr ⟨lw_p24, List.forall_mem_cons.mpr ⟨lw_p25, List.forall_mem_cons.mpr ⟨lw_p26, List.forall_mem_cons.mpr ⟨lw_p27, List.forall_mem_cons.mpr ⟨lw_p28, List.forall_mem_cons.mpr ⟨lw_p29, List.forall_mem_cons.mpr ⟨lw_p30, List.forall_mem_cons.mpr ⟨lw_p31, fun _ h => absurd h List.not_mem_nil⟩⟩⟩⟩⟩⟩⟩⟩⟩⟩⟩⟩⟩⟩⟩⟩
theorem lw_p32 : lw_okq (⟨"PerfectPew$Graph", "vertexOf", "(LPerfectPew$Hash;I)I"⟩, 8) := ⟨⟨by decide +kernel, by decide +kernel⟩, List.mem_of_getElem? (i := 142) (by decide +kernel), List.mem_of_getElem? (i := 532) (by decide +kernel), List.mem_of_getElem? (i := 533) (by decide +kernel)⟩
theorem lw_p33 : lw_okq (⟨"PerfectPew$Graph", "giveValues", "()Z"⟩, 8) := ⟨⟨by decide +kernel, by decide +kernel⟩, List.mem_of_getElem? (i := 142) (by decide +kernel), List.mem_of_getElem? (i := 542) (by decide +kernel), List.mem_of_getElem? (i := 543) (by decide +kernel)⟩
theorem lw_p34 : lw_okq (⟨"PerfectPew$Graph", "walkFrom", "(I)Z"⟩, 8) := ⟨⟨by decide +kernel, by decide +kernel⟩, List.mem_of_getElem? (i := 142) (by decide +kernel), List.mem_of_getElem? (i := 548) (by decide +kernel), List.mem_of_getElem? (i := 549) (by decide +kernel)⟩
theorem lw_p35 : lw_okq (⟨"PerfectPew$Graph", "reach", "(II)V"⟩, 8) := ⟨⟨by decide +kernel, by decide +kernel⟩, List.mem_of_getElem? (i := 142) (by decide +kernel), List.mem_of_getElem? (i := 552) (by decide +kernel), List.mem_of_getElem? (i := 553) (by decide +kernel)⟩
theorem lw_p36 : lw_okq (⟨"PerfectPew$Graph", "walkOn", "(I)Z"⟩, 8) := ⟨⟨by decide +kernel, by decide +kernel⟩, List.mem_of_getElem? (i := 142) (by decide +kernel), List.mem_of_getElem? (i := 557) (by decide +kernel), List.mem_of_getElem? (i := 558) (by decide +kernel)⟩
theorem lw_p37 : lw_okq (⟨"PerfectPew$Groups", "groupOf", "(I)I"⟩, 5) := ⟨⟨by decide +kernel, by decide +kernel⟩, List.mem_of_getElem? (i := 64) (by decide +kernel), List.mem_of_getElem? (i := 564) (by decide +kernel), List.mem_of_getElem? (i := 565) (by decide +kernel)⟩
theorem lw_p38 : lw_okq (⟨"PerfectPew", "keepFingerprints", "(I)V"⟩, 7) := ⟨⟨by decide +kernel, by decide +kernel⟩, List.mem_of_getElem? (i := 20) (by decide +kernel), List.mem_of_getElem? (i := 569) (by decide +kernel), List.mem_of_getElem? (i := 570) (by decide +kernel)⟩
theorem lw_p39 : lw_okq (⟨"PerfectPew", "keyWithNumber", "(I)I"⟩, 7) := ⟨⟨by decide +kernel, by decide +kernel⟩, List.mem_of_getElem? (i := 20) (by decide +kernel), List.mem_of_getElem? (i := 573) (by decide +kernel), List.mem_of_getElem? (i := 574) (by decide +kernel)⟩
theorem lw_p40 : lw_okq (⟨"PerfectPew", "fingerprintOf", "(I)I"⟩, 7) := ⟨⟨by decide +kernel, by decide +kernel⟩, List.mem_of_getElem? (i := 20) (by decide +kernel), List.mem_of_getElem? (i := 578) (by decide +kernel), List.mem_of_getElem? (i := 579) (by decide +kernel)⟩
theorem lw_p41 : lw_okq (⟨"PerfectPew$Packer", "pack", "(LPerfectPew$Row;I)V"⟩, 3) := ⟨⟨by decide +kernel, by decide +kernel⟩, List.mem_of_getElem? (i := 123) (by decide +kernel), List.mem_of_getElem? (i := 586) (by decide +kernel), List.mem_of_getElem? (i := 587) (by decide +kernel)⟩
theorem lw_p42 : lw_okq (⟨"PerfectPew$Packer", "write", "(IJ)V"⟩, 3) := ⟨⟨by decide +kernel, by decide +kernel⟩, List.mem_of_getElem? (i := 123) (by decide +kernel), List.mem_of_getElem? (i := 602) (by decide +kernel), List.mem_of_getElem? (i := 603) (by decide +kernel)⟩
theorem lw_p43 : lw_okq (⟨"PerfectPew$Packer", "join", "(IJ)V"⟩, 3) := ⟨⟨by decide +kernel, by decide +kernel⟩, List.mem_of_getElem? (i := 123) (by decide +kernel), List.mem_of_getElem? (i := 606) (by decide +kernel), List.mem_of_getElem? (i := 607) (by decide +kernel)⟩
theorem lw_p44 : lw_okq (⟨"PerfectPew", "requireBuilt", "()V"⟩, 7) := ⟨⟨by decide +kernel, by decide +kernel⟩, List.mem_of_getElem? (i := 20) (by decide +kernel), List.mem_of_getElem? (i := 617) (by decide +kernel), List.mem_of_getElem? (i := 618) (by decide +kernel)⟩
theorem lw_p45 : lw_okq (⟨"PerfectPew$Displacer", "numberOf", "(I)I"⟩, 9) := ⟨⟨by decide +kernel, by decide +kernel⟩, List.mem_of_getElem? (i := 58) (by decide +kernel), List.mem_of_getElem? (i := 629) (by decide +kernel), List.mem_of_getElem? (i := 630) (by decide +kernel)⟩
theorem lw_p46 : lw_okq (⟨"PerfectPew", "lookUp", "(I)I"⟩, 7) := ⟨⟨by decide +kernel, by decide +kernel⟩, List.mem_of_getElem? (i := 20) (by decide +kernel), List.mem_of_getElem? (i := 640) (by decide +kernel), List.mem_of_getElem? (i := 641) (by decide +kernel)⟩
theorem lw_p47 : lw_okq (⟨"PerfectPew$Packer", "wordAt", "(I)J"⟩, 3) := ⟨⟨by decide +kernel, by decide +kernel⟩, List.mem_of_getElem? (i := 123) (by decide +kernel), List.mem_of_getElem? (i := 709) (by decide +kernel), List.mem_of_getElem? (i := 710) (by decide +kernel)⟩
def lw_privs_3 : List (MethodName × Nat) := [(⟨"PerfectPew$Graph", "vertexOf", "(LPerfectPew$Hash;I)I"⟩, 8), (⟨"PerfectPew$Graph", "giveValues", "()Z"⟩, 8), (⟨"PerfectPew$Graph", "walkFrom", "(I)Z"⟩, 8), (⟨"PerfectPew$Graph", "reach", "(II)V"⟩, 8), (⟨"PerfectPew$Graph", "walkOn", "(I)Z"⟩, 8), (⟨"PerfectPew$Groups", "groupOf", "(I)I"⟩, 5), (⟨"PerfectPew", "keepFingerprints", "(I)V"⟩, 7), (⟨"PerfectPew", "keyWithNumber", "(I)I"⟩, 7), (⟨"PerfectPew", "fingerprintOf", "(I)I"⟩, 7), (⟨"PerfectPew$Packer", "pack", "(LPerfectPew$Row;I)V"⟩, 3), (⟨"PerfectPew$Packer", "write", "(IJ)V"⟩, 3), (⟨"PerfectPew$Packer", "join", "(IJ)V"⟩, 3), (⟨"PerfectPew", "requireBuilt", "()V"⟩, 7), (⟨"PerfectPew$Displacer", "numberOf", "(I)I"⟩, 9), (⟨"PerfectPew", "lookUp", "(I)I"⟩, 7), (⟨"PerfectPew$Packer", "wordAt", "(I)J"⟩, 3)]
theorem lw_r3 : ∀ q ∈ lw_privs_3, lw_okq q := List.forall_mem_cons.mpr ⟨lw_p32, List.forall_mem_cons.mpr ⟨lw_p33, List.forall_mem_cons.mpr ⟨lw_p34, List.forall_mem_cons.mpr ⟨lw_p35, List.forall_mem_cons.mpr ⟨lw_p36, List.forall_mem_cons.mpr ⟨lw_p37, List.forall_mem_cons.mpr ⟨lw_p38, List.forall_mem_cons.mpr ⟨lw_p39, List.forall_mem_cons.mpr ⟨lw_p40, List.forall_mem_cons.mpr ⟨lw_p41, List.forall_mem_cons.mpr ⟨lw_p42, List.forall_mem_cons.mpr ⟨lw_p43, List.forall_mem_cons.mpr ⟨lw_p44, List.forall_mem_cons.mpr ⟨lw_p45, List.forall_mem_cons.mpr ⟨lw_p46, List.forall_mem_cons.mpr ⟨lw_p47, fun _ h => absurd h List.not_mem_nil⟩⟩⟩⟩⟩⟩⟩⟩⟩⟩⟩⟩⟩⟩⟩⟩
theorem lw_p48 : lw_okq (⟨"PerfectPew$Graph", "sumFor", "(I)I"⟩, 8) := ⟨⟨by decide +kernel, by decide +kernel⟩, List.mem_of_getElem? (i := 142) (by decide +kernel), List.mem_of_getElem? (i := 720) (by decide +kernel), List.mem_of_getElem? (i := 721) (by decide +kernel)⟩
theorem lw_p49 : lw_okq (⟨"PerfectPewModel", "fails", "(I)I"⟩, 20) := ⟨⟨by decide +kernel, by decide +kernel⟩, List.mem_of_getElem? (i := 738) (by decide +kernel), List.mem_of_getElem? (i := 817) (by decide +kernel), List.mem_of_getElem? (i := 818) (by decide +kernel)⟩
theorem lw_p50 : lw_okq (⟨"PerfectPewModel", "is", "(I)Z"⟩, 20) := ⟨⟨by decide +kernel, by decide +kernel⟩, List.mem_of_getElem? (i := 738) (by decide +kernel), List.mem_of_getElem? (i := 821) (by decide +kernel), List.mem_of_getElem? (i := 822) (by decide +kernel)⟩
theorem lw_p51 : lw_okq (⟨"PerfectPewModel", "below", "(I)I"⟩, 20) := ⟨⟨by decide +kernel, by decide +kernel⟩, List.mem_of_getElem? (i := 738) (by decide +kernel), List.mem_of_getElem? (i := 825) (by decide +kernel), List.mem_of_getElem? (i := 826) (by decide +kernel)⟩
theorem lw_p52 : lw_okq (⟨"PerfectPewModel", "put", "(I)V"⟩, 20) := ⟨⟨by decide +kernel, by decide +kernel⟩, List.mem_of_getElem? (i := 738) (by decide +kernel), List.mem_of_getElem? (i := 829) (by decide +kernel), List.mem_of_getElem? (i := 830) (by decide +kernel)⟩
theorem lw_p53 : lw_okq (⟨"PerfectPewModel", "displaces", "(II)Z"⟩, 20) := ⟨⟨by decide +kernel, by decide +kernel⟩, List.mem_of_getElem? (i := 738) (by decide +kernel), List.mem_of_getElem? (i := 857) (by decide +kernel), List.mem_of_getElem? (i := 858) (by decide +kernel)⟩
theorem lw_p54 : lw_okq (⟨"PerfectPewModel", "gather", "(III)I"⟩, 20) := ⟨⟨by decide +kernel, by decide +kernel⟩, List.mem_of_getElem? (i := 738) (by decide +kernel), List.mem_of_getElem? (i := 861) (by decide +kernel), List.mem_of_getElem? (i := 862) (by decide +kernel)⟩
theorem lw_p55 : lw_okq (⟨"PerfectPewModel", "lays", "(III)Z"⟩, 20) := ⟨⟨by decide +kernel, by decide +kernel⟩, List.mem_of_getElem? (i := 738) (by decide +kernel), List.mem_of_getElem? (i := 896) (by decide +kernel), List.mem_of_getElem? (i := 897) (by decide +kernel)⟩
theorem lw_p56 : lw_okq (⟨"PerfectPewModel", "goes", "(III)Z"⟩, 20) := ⟨⟨by decide +kernel, by decide +kernel⟩, List.mem_of_getElem? (i := 738) (by decide +kernel), List.mem_of_getElem? (i := 900) (by decide +kernel), List.mem_of_getElem? (i := 901) (by decide +kernel)⟩
theorem lw_p57 : lw_okq (⟨"PerfectPewModel", "hasNoCircle", "(I)Z"⟩, 20) := ⟨⟨by decide +kernel, by decide +kernel⟩, List.mem_of_getElem? (i := 738) (by decide +kernel), List.mem_of_getElem? (i := 910) (by decide +kernel), List.mem_of_getElem? (i := 911) (by decide +kernel)⟩
theorem lw_p58 : lw_okq (⟨"PerfectPewModel", "root", "(I)I"⟩, 20) := ⟨⟨by decide +kernel, by decide +kernel⟩, List.mem_of_getElem? (i := 738) (by decide +kernel), List.mem_of_getElem? (i := 914) (by decide +kernel), List.mem_of_getElem? (i := 915) (by decide +kernel)⟩
theorem lw_p59 : lw_okq (⟨"PerfectPewModel", "print", "(I)I"⟩, 20) := ⟨⟨by decide +kernel, by decide +kernel⟩, List.mem_of_getElem? (i := 738) (by decide +kernel), List.mem_of_getElem? (i := 918) (by decide +kernel), List.mem_of_getElem? (i := 919) (by decide +kernel)⟩
theorem lw_p60 : lw_okq (⟨"PerfectPewModel", "layValues", "()V"⟩, 20) := ⟨⟨by decide +kernel, by decide +kernel⟩, List.mem_of_getElem? (i := 738) (by decide +kernel), List.mem_of_getElem? (i := 922) (by decide +kernel), List.mem_of_getElem? (i := 923) (by decide +kernel)⟩
theorem lw_p61 : lw_okq (⟨"PerfectPewModel", "pack", "()V"⟩, 20) := ⟨⟨by decide +kernel, by decide +kernel⟩, List.mem_of_getElem? (i := 738) (by decide +kernel), List.mem_of_getElem? (i := 926) (by decide +kernel), List.mem_of_getElem? (i := 927) (by decide +kernel)⟩
theorem lw_p62 : lw_okq (⟨"PerfectPewModel", "numberOf", "(I)I"⟩, 20) := ⟨⟨by decide +kernel, by decide +kernel⟩, List.mem_of_getElem? (i := 738) (by decide +kernel), List.mem_of_getElem? (i := 942) (by decide +kernel), List.mem_of_getElem? (i := 943) (by decide +kernel)⟩
theorem lw_p63 : lw_okq (⟨"PerfectPewModel", "found", "(I)I"⟩, 20) := ⟨⟨by decide +kernel, by decide +kernel⟩, List.mem_of_getElem? (i := 738) (by decide +kernel), List.mem_of_getElem? (i := 950) (by decide +kernel), List.mem_of_getElem? (i := 951) (by decide +kernel)⟩
def lw_privs_4 : List (MethodName × Nat) := [(⟨"PerfectPew$Graph", "sumFor", "(I)I"⟩, 8), (⟨"PerfectPewModel", "fails", "(I)I"⟩, 20), (⟨"PerfectPewModel", "is", "(I)Z"⟩, 20), (⟨"PerfectPewModel", "below", "(I)I"⟩, 20), (⟨"PerfectPewModel", "put", "(I)V"⟩, 20), (⟨"PerfectPewModel", "displaces", "(II)Z"⟩, 20), (⟨"PerfectPewModel", "gather", "(III)I"⟩, 20), (⟨"PerfectPewModel", "lays", "(III)Z"⟩, 20), (⟨"PerfectPewModel", "goes", "(III)Z"⟩, 20), (⟨"PerfectPewModel", "hasNoCircle", "(I)Z"⟩, 20), (⟨"PerfectPewModel", "root", "(I)I"⟩, 20), (⟨"PerfectPewModel", "print", "(I)I"⟩, 20), (⟨"PerfectPewModel", "layValues", "()V"⟩, 20), (⟨"PerfectPewModel", "pack", "()V"⟩, 20), (⟨"PerfectPewModel", "numberOf", "(I)I"⟩, 20), (⟨"PerfectPewModel", "found", "(I)I"⟩, 20)]
theorem lw_r4 : ∀ q ∈ lw_privs_4, lw_okq q := List.forall_mem_cons.mpr ⟨lw_p48, List.forall_mem_cons.mpr ⟨lw_p49, List.forall_mem_cons.mpr ⟨lw_p50, List.forall_mem_cons.mpr ⟨lw_p51, List.forall_mem_cons.mpr ⟨lw_p52, List.forall_mem_cons.mpr ⟨lw_p53, List.forall_mem_cons.mpr ⟨lw_p54, List.forall_mem_cons.mpr ⟨lw_p55, List.forall_mem_cons.mpr ⟨lw_p56, List.forall_mem_cons.mpr ⟨lw_p57, List.forall_mem_cons.mpr ⟨lw_p58, List.forall_mem_cons.mpr ⟨lw_p59, List.forall_mem_cons.mpr ⟨lw_p60, List.forall_mem_cons.mpr ⟨lw_p61, List.forall_mem_cons.mpr ⟨lw_p62, List.forall_mem_cons.mpr ⟨lw_p63, fun _ h => absurd h List.not_mem_nil⟩⟩⟩⟩⟩⟩⟩⟩⟩⟩⟩⟩⟩⟩⟩⟩
theorem lw_p64 : lw_okq (⟨"PerfectPewModel", "told", "(ZI)I"⟩, 20) := ⟨⟨by decide +kernel, by decide +kernel⟩, List.mem_of_getElem? (i := 738) (by decide +kernel), List.mem_of_getElem? (i := 962) (by decide +kernel), List.mem_of_getElem? (i := 963) (by decide +kernel)⟩
def lw_privs_5 : List (MethodName × Nat) := [(⟨"PerfectPewModel", "told", "(ZI)I"⟩, 20)]
theorem lw_r5 : ∀ q ∈ lw_privs_5, lw_okq q := List.forall_mem_cons.mpr ⟨lw_p64, fun _ h => absurd h List.not_mem_nil⟩
def lw_privs : List (MethodName × Nat) := lw_privs_1 ++ (lw_privs_2 ++ (lw_privs_3 ++ (lw_privs_4 ++ (lw_privs_5))))
def lw_tbl : List Cond := k2_sels lw_privs ++ tables_1
theorem lw_privs_ok : ∀ q ∈ lw_privs, lw_okq q := by
  show ∀ q ∈ lw_privs_1 ++ (lw_privs_2 ++ (lw_privs_3 ++ (lw_privs_4 ++ (lw_privs_5)))), lw_okq q
  exact List.forall_mem_append.mpr ⟨lw_r1, List.forall_mem_append.mpr ⟨lw_r2, List.forall_mem_append.mpr ⟨lw_r3, List.forall_mem_append.mpr ⟨lw_r4, lw_r5⟩⟩⟩⟩
-- ===== end of PART A; then your names; then what follows =====
end
section
/-! ===== BEGIN words of one list among another's, by their places ===== -/
theorem goodIn_r {big : List Cond} (ws : List Cond) (ps : List Nat) (hp : ws = ps.filterMap (fun i => big[i]?)) (h : ws.all goodWord = true) : GoodIn big ws := by
  intro w hw
  have h1 := List.all_eq_true.mp h w hw
  rw [hp] at hw
  obtain ⟨i, -, hi⟩ := List.mem_filterMap.mp hw
  have hm : w ∈ big := by first | exact List.mem_of_getElem? hi | exact List.getElem?_mem hi
  exact ⟨hm, good_of_word h1⟩
theorem goodIn_app {big a b : List Cond} (ha : GoodIn big a) (hb : GoodIn big b) : GoodIn big (a ++ b) := fun w h => (List.mem_append.mp h).elim (ha w) (hb w)
theorem goodIn_ca {big a b : List Cond} {c : Cond} (ha : GoodIn big (c :: a)) (hb : GoodIn big b) : GoodIn big (c :: (a ++ b)) := fun w h => (List.mem_cons.mp h).elim (fun e => ha w (List.mem_cons.mpr (Or.inl e))) (fun h => (List.mem_append.mp h).elim (fun h => ha w (List.mem_cons.mpr (Or.inr h))) (hb w))
theorem goodIn_sub {big ws : List Cond} (hm : ∀ w ∈ ws, w ∈ big) (h : ws.all goodWord = true) : GoodIn big ws := fun w hw => ⟨hm w hw, good_of_word (List.all_eq_true.mp h w hw)⟩
/-! ===== END ===== -/

/-! ===== BEGIN exceptions that leave a method, and their catching by the caller (launches without stack traces) ===== -/
section VXA
/-! The laws vx_back, vx_callV, vx_callS, vx_callSW, vx_throw0, vx_throwS follow proofs of the library, with one case more: JvmDerived/Free/Laws.lean (Back.of_free), Shelf42/LK1.lean (callV, callS), Shelf/KitTraced.lean (throwNew0V, throwNewS). -/
/-- where a method has thrown q: the class by its name, the cell, what was written, the world -/
def vx_T (XC : String → State → State → Prop) (st : State) (q : Addr) (t : State) (mc ms : Nat) (free : Addr → Prop) : Prop :=
  ∃ (E : String) (ce : Cell) (L : List Loc), XC E st t ∧ t.heap[q]? = some ce ∧ ce.vm = .none ∧ st.vm.findClass E = some ce.cls ∧ st.WarmedH t.vm ∧ st.sameButNew ({ t with vm := st.vm } : State) L mc ms ∧ ∀ z ∈ L, free z.base
def vx_Q (Qc : Array Value → State → Outcome → State → Prop) (XC : String → State → State → Prop) (mc ms : Nat) (free : Addr → Prop) : Array Value → State → Outcome → State → Prop := fun a st o t =>
  (Qc a st o t ∧ ∃ L, FrameEnd st o t L mc ms ∧ ∀ q ∈ L, free q.base) ∨ ∃ q, o = .threw q ∧ vx_T XC st q t mc ms free
/-- a callee that returns or throws -/
def vx_Met (l : Launch) (y : MethodName) (ws : List Cond) (rm : Room) (Pc : Array Value → State → Prop) (Qc : Array Value → State → Outcome → State → Prop) (XC : String → State → State → Prop) (mc ms : Nat) (free : Addr → Prop) : Prop :=
  MetFree l y (headSpec ws rm) Pc (fun _ _ _ _ _ => True) (vx_Q Qc XC mc ms free)
def vx_Post (XC : String → State → State → Prop) (mc ms : Nat) (free : Addr → Prop) : Pt → Array Value → Addr → Pt → Prop := fun A a q B =>
  ∃ (g : JFrame) (mk : MethodId) (t : State) (L : List Loc) (E : String) (ce : Cell), B.U.heap = t.heap ∧ B.U.vm = t.vm ∧ XC E (A.U.calling g mk a) t ∧ t.heap[q]? = some ce ∧ ce.vm = .none ∧ A.U.vm.findClass E = some ce.cls ∧ B.locs = A.locs ++ L ∧ (∀ z ∈ L, free z.base) ∧ B.cells = A.cells + mc ∧ B.slots = A.slots + ms
def vx_Back (l : Launch) (R : Room) (p : Program) (e : Env) (below : List Frame) (s : State) (sargs : Array Value) (y : MethodName) (len W9 : Nat)
    (Pre : Pt → Array Value → Prop) (Post : Pt → Array Value → Option Value → Pt → Prop) (PostX : Pt → Array Value → Addr → Pt → Prop) : Prop :=
  ∀ (m : MethodId) (meth : Method) (c : Code) (A : Pt) (g : JFrame) (ig : Instr) (mk : MethodId) (a : Array Value),
    Stand p l e R s m sargs below meth c A.U A.locs A.cells A.slots → g.method = m → g.locals.size = c.maxLocals → decode c.code g.pc = .ok (ig, len) →
    2 * g.monitorRoom + (g.stack.map fun v => v.category).sum ≤ W9 → A.U.methodNamed? y = some mk → Pre A a →
    (∃ (v : Option Value) (B : Pt), Stand p l e R s m sargs below meth c B.U B.locs B.cells B.slots ∧ Post A a v B ∧
      Steps p.tables e below (doInvoke e (A.U.setTop g) [] mk a).1 (B.U.setTop { g with pc := g.pc + len, stack := v.toList ++ g.stack })) ∨
    (∃ (q : Addr) (B : Pt), Stand p l e R s m sargs below meth c B.U B.locs B.cells B.slots ∧ PostX A a q B ∧
      Steps p.tables e below (doInvoke e (A.U.setTop g) [] mk a).1 ((B.U.setTop g).pushFrame (.throwing q)))
section Payer
variable {l : Launch} {R : Room} {p : Program} {e : Env} {below : List Frame} {s : State} {sargs : Array Value} {y : MethodName} {len W9 : Nat}
theorem vx_back {ws : List Cond} {rm : Room} {Pc : Array Value → State → Prop} {Qc : Array Value → State → Outcome → State → Prop} {XC : String → State → State → Prop} {mc ms : Nat} {free : Addr → Prop} {bytes : ByteArray} {maxL : Nat} {ret : Option FieldType}
    (hM : vx_Met l y ws rm Pc Qc XC mc ms free) (hblind : FrameBlind Pc) (hrc : rm.cells = mc) (hrs : rm.slots = ms)
    (hframes : rm.frames + 1 ≤ R.frames) (hlocals : W9 + (maxL + 11) + rm.locals ≤ R.locals)
    (hws : ∀ w ∈ ws, ∀ a' U, s.WarmedH U.vm → w.before a' U = true) (hcode : Cond.code y bytes maxL ret ∈ ws) (hinit : ∀ a' U, s.WarmedH U.vm → (Cond.initialized y.cls).before a' U = true) :
    vx_Back l R p e below s sargs y len W9 (PreOf R mc ms Pc) (PostOf Qc mc ms free) (vx_Post XC mc ms free) := by
  intro m meth c A g ig mk a X hg hsize hdg hW hn hp
  have h1 : (headSpec ws rm).pre.before a A.U = true := atoms_intro fun w hw => hws w hw _ _ X.warmed
  have h2 : (Cond.code y bytes maxL ret).before a A.U = true := hws _ hcode _ _ X.warmed
  have h3 : (Cond.initialized y.cls).before a A.U = true := hinit _ _ X.warmed
  have h4 : A.cells + (headSpec ws rm).room.cells ≤ R.cells := by rw [show (headSpec ws rm).room.cells = mc from hrc]; exact hp.1
  have h5 : A.slots + (headSpec ws rm).room.slots ≤ R.slots := by rw [show (headSpec ws rm).room.slots = ms from hrs]; exact hp.2.1
  have hPc : Pc a (A.U.calling g mk a) := hblind _ _ _ _ hp.2.2
  obtain ⟨U, Ls, c0, s0⟩ := A
  dsimp only [Pt.U, Pt.locs, Pt.cells, Pt.slots] at h1 h2 h3 h4 h5 X hn hPc ⊢
  obtain ⟨methY, cY, hmY, hcY, -, hlY, -, -, -, -⟩ := Cond.code_spec hn h2
  obtain ⟨kY, hkY, -⟩ := className_of_methodNamed hn
  have hinitY : kY.init = .initialized := Cond.initialized_spec (findClass_of_methodNamed hn) hkY h3
  have h : At U g.method c below := by rw [hg]; exact X.here
  have hlocals9 : W9 + (maxL + 11) + (headSpec ws rm).room.locals ≤ R.locals := hlocals
  have happ : (headSpec ws rm).appliesLoose y e.platform (U.calling g mk a) = true :=
    Spec.appliesLoose_calling (g := g) h hdg hn hkY hinitY
      (X.room_calling (g := g) (R' := (headSpec ws rm).room) hsize hmY hcY hframes (by rw [hlY]; omega) h4 h5) h1
  obtain ⟨mid, hmid⟩ := h.above
  have hfr : (U.setTop g).frames = (.java g :: mid) ++ below := by rw [State.frames_setTop' g h.top, hmid]; rfl
  obtain ⟨o, s₂, hsteps, -, hend, hq⟩ := Steps.callFree hM p X.admits X.cas X.clock (acts := []) hfr happ hPc trivial
  have hq' : vx_Q Qc XC mc ms free a (U.calling g mk a) o s₂ := hq
  rw [State.frames_setTop' g h.top] at hend
  obtain ⟨g₀, hg0⟩ := Option.isSome_iff_exists.mp h.top
  obtain ⟨r, hr⟩ := State.topJava?_eq_some.mp hg0
  have hr' : (({ U with heap := s₂.heap, slotsUsed := s₂.slotsUsed } : State).setVm s₂.vm).frames = .java g₀ :: r := hr
  rcases hq' with ⟨hqc, L, hfe, hL⟩ | ⟨q, rfl, E, ce, L, hx, hce, hcv, hcl, hW₂, hsm, hL⟩
  · obtain ⟨⟨v, rfl⟩, hW₂, e2, q2, q3, q4, q5, q6⟩ := id hfe
    have e3 : s₂ = ({ (U.calling g mk a).setFrames s₂.frames with heap := s₂.heap, slotsUsed := s₂.slotsUsed } : State).setVm s₂.vm := by
      have : s₂ = ({ s₂ with vm := (U.calling g mk a).vm } : State).setVm s₂.vm := rfl
      rw [e2] at this
      exact this
    obtain ⟨c₂, i₂, len₂, hc₂, hd₂, hf₂⟩ := hend
    have hW' : U.WarmedH s₂.vm := hW₂
    have hcc : c₂ = c := by
      have h1 : s₂.code? g.method = U.code? g.method := by
        rw [State.code?_eq, State.code?_eq, hW'.alike.method?]
      exact Option.some.inj (hc₂.symm.trans (h1.trans h.code))
    subst hcc
    have hlen : len₂ = len := by rw [hdg] at hd₂; cases hd₂; rfl
    subst hlen
    have hs₂ : s₂ = (({ U with heap := s₂.heap, slotsUsed := s₂.slotsUsed } : State).setVm s₂.vm).setTop { g with pc := g.pc + len₂, stack := v.toList ++ g.stack } := by
      refine e3.trans ?_
      rw [hf₂, State.calling_eq h.top, State.setFrames_setFrames, State.setTop_of_frames _ hr', hr]
      rfl
    have hsame : U.sameButNew ({ U with heap := s₂.heap, slotsUsed := s₂.slotsUsed } : State) L mc ms := by
      refine ⟨?_, q2, q3, q4, q5, q6⟩
      obtain ⟨t, ht, -⟩ := State.frames_cons hr
      show ({ U with heap := s₂.heap, slotsUsed := s₂.slotsUsed } : State) = { U.setFrames U.frames with heap := s₂.heap, slotsUsed := s₂.slotsUsed }
      rw [State.setFrames_self ht]
    subst hg
    refine Or.inl ⟨v, ⟨(({ U with heap := s₂.heap, slotsUsed := s₂.slotsUsed } : State).setVm s₂.vm), Ls ++ L, c0 + mc, s0 + ms⟩,
      ⟨X.admits, X.cas, X.clock, X.frames, X.room, X.hears, X.method, X.code, (X.here.setHeapUsed s₂.heap s₂.slotsUsed).setVm hW'.alike, X.tail, State.WarmedH.trans X.warmed hW', X.limits, X.bytes, X.same.trans (hsame.setVm s.vm)⟩,
      ⟨g, mk, s₂, L, rfl, rfl, hqc, rfl, hL, rfl, rfl⟩, ?_⟩
    show Steps p.tables e below _ ((({ U with heap := s₂.heap, slotsUsed := s₂.slotsUsed } : State).setVm s₂.vm).setTop { g with pc := g.pc + len₂, stack := v.toList ++ g.stack })
    rw [← hs₂]
    exact hsteps
  · obtain ⟨e2, q2, q3, q4, q5, q6⟩ := id hsm
    have e3 : s₂ = ({ (U.calling g mk a).setFrames s₂.frames with heap := s₂.heap, slotsUsed := s₂.slotsUsed } : State).setVm s₂.vm := by
      have : s₂ = ({ s₂ with vm := (U.calling g mk a).vm } : State).setVm s₂.vm := rfl
      rw [e2] at this
      exact this
    have hf₂ : s₂.frames = .throwing q :: .java g :: U.frames.tail := hend
    have hW' : U.WarmedH s₂.vm := hW₂
    have hs₂ : s₂ = ((({ U with heap := s₂.heap, slotsUsed := s₂.slotsUsed } : State).setVm s₂.vm).setTop g).pushFrame (.throwing q) := by
      refine e3.trans ?_
      rw [hf₂, State.calling_eq h.top, State.setFrames_setFrames, State.pushFrame, State.frames_setTop _ hr', State.setTop_of_frames _ hr', State.setFrames_setFrames, hr]
      rfl
    have hsame : U.sameButNew ({ U with heap := s₂.heap, slotsUsed := s₂.slotsUsed } : State) L mc ms := by
      refine ⟨?_, q2, q3, q4, q5, q6⟩
      obtain ⟨t, ht, -⟩ := State.frames_cons hr
      show ({ U with heap := s₂.heap, slotsUsed := s₂.slotsUsed } : State) = { U.setFrames U.frames with heap := s₂.heap, slotsUsed := s₂.slotsUsed }
      rw [State.setFrames_self ht]
    subst hg
    refine Or.inr ⟨q, ⟨(({ U with heap := s₂.heap, slotsUsed := s₂.slotsUsed } : State).setVm s₂.vm), Ls ++ L, c0 + mc, s0 + ms⟩,
      ⟨X.admits, X.cas, X.clock, X.frames, X.room, X.hears, X.method, X.code, (X.here.setHeapUsed s₂.heap s₂.slotsUsed).setVm hW'.alike, X.tail, State.WarmedH.trans X.warmed hW', X.limits, X.bytes, X.same.trans (hsame.setVm s.vm)⟩,
      ⟨g, mk, s₂, L, E, ce, rfl, rfl, hx, hce, hcv, hcl, rfl, hL, rfl, rfl⟩, ?_⟩
    show Steps p.tables e below _ (((({ U with heap := s₂.heap, slotsUsed := s₂.slotsUsed } : State).setVm s₂.vm).setTop g).pushFrame (.throwing q))
    rw [← hs₂]
    exact hsteps
end Payer
section Calls
variable {p : Program} {l : Launch} {e : Env} {R : Room} {s : State} {m : MethodId} {args : Array Value} {below : List Frame} {meth : Method} {c : Code} {T : State} {locs : List Loc} {cells slots : Nat}
theorem vx_callV (X : Stand p l e R s m args below meth c T locs cells slots) (hexec : p.tables.exec = Jvm.exec) {own C : String} {index : Nat} {y : MethodName} {bytes : ByteArray} {maxL : Nat} {ret : Option FieldType}
    (hown : s.vm.findClass own = some m.cls) (hlink : (Cond.methodLink own index y).before args s = true) (hinst : (Cond.instanceMethod y).before args s = true) (hsel : (Cond.selects C y y).before args s = true)
    (hcode : (Cond.code y bytes maxL ret).before args s = true) (hy : y.cls ≠ "java/lang/invoke/MethodHandle" ∧ y.cls ≠ "java/lang/invoke/VarHandle")
    {W9 : Nat} {Pre : Pt → Array Value → Prop} {Post : Pt → Array Value → Option Value → Pt → Prop} {PostX : Pt → Array Value → Addr → Pt → Prop} (hK : vx_Back l R p e below s args y 3 W9 Pre Post PostX)
    {b : Addr} {cellB : Cell} (hcell : T.heap[b]? = some cellB) (hobj : cellB.vm.isStatics = false) (hcls : s.vm.findClass C = some cellB.cls)
    {g : JFrame} (hg : g.method = m) (hsize : g.locals.size = c.maxLocals) {argsL rest : List Value} (hlen : ∀ sig, parseMethodDescriptor y.desc = some sig → argsL.length = sig.parameters.length)
    (hstack : g.stack = argsL.reverse ++ .ref b :: rest) (hW : 2 * g.monitorRoom + (rest.map fun v => v.category).sum ≤ W9) (hdg : decode c.code g.pc = .ok (.invokevirtual index, 3))
    (hpre : ∀ vm₁, s.WarmedH vm₁ → Pre ⟨T.setVm vm₁, locs, cells, slots⟩ (Value.ref b :: argsL).toArray) :
    (∃ (v : Option Value) (vm₁ : Vm) (B : Pt), s.WarmedH vm₁ ∧ Stand p l e R s m args below meth c B.U B.locs B.cells B.slots ∧ Post ⟨T.setVm vm₁, locs, cells, slots⟩ (Value.ref b :: argsL).toArray v B ∧
      ∀ target, Steps p.tables e below (B.U.setTop { g with pc := g.pc + 3, stack := v.toList ++ rest }) target → Steps p.tables e below (T.setTop g) target) ∨
    (∃ (q : Addr) (vm₁ : Vm) (B : Pt), s.WarmedH vm₁ ∧ Stand p l e R s m args below meth c B.U B.locs B.cells B.slots ∧ PostX ⟨T.setVm vm₁, locs, cells, slots⟩ (Value.ref b :: argsL).toArray q B ∧
      Steps p.tables e below (T.setTop g) ((B.U.setTop { g with stack := rest }).pushFrame (.throwing q))) := by
  obtain ⟨mk, methM, hnamed, hmethM, hstM, habM⟩ := Cond.instanceMethod_spec hinst
  obtain ⟨methM', cM, hmethM', -, -, -, -, -, -, hsigM⟩ := Cond.code_spec hnamed hcode
  cases hmethM.symm.trans hmethM'
  obtain ⟨c2, r2, m2, q1, q2, q3, q4, kP, hkP, hkPi⟩ := Cond.selects_spec hsel
  cases hcls.symm.trans q1
  cases (State.methodFound?_of_named hnamed hy).symm.trans q2
  cases hnamed.symm.trans q3
  have hselP : selectMethod e.platform s.vm cellB.cls mk = .method mk := by rw [Launch.admits_selectMethod X.admits]; exact q4
  obtain ⟨vm₁, X₁, hstep₁⟩ := X.invokevirtual hexec hown hlink hnamed hmethM hstM hkP hkPi hy (a := b) (cell := cellB) hcell
    (fun z h => by rw [h] at hobj; cases hobj) hselP hmethM habM hkP hkPi (g := g) hg (argsL := argsL) (rest := rest) (hlen _ hsigM) hstack hdg
  rcases hK m meth c ⟨T.setVm vm₁, locs, cells, slots⟩ { g with stack := rest } (.invokevirtual index) mk (Value.ref b :: argsL).toArray X₁ hg hsize hdg hW (X₁.named hnamed) (hpre vm₁ X₁.warmed) with ⟨v, B, X', hpost, hsteps⟩ | ⟨q, B, X', hpost, hsteps⟩
  · exact Or.inl ⟨v, vm₁, B, X₁.warmed, X', hpost, fun target h => hstep₁ _ fun acts => by rw [doInvoke_state]; exact hsteps.trans h⟩
  · exact Or.inr ⟨q, vm₁, B, X₁.warmed, X', hpost, hstep₁ _ fun acts => by rw [doInvoke_state]; exact hsteps⟩
theorem vx_callS (X : Stand p l e R s m args below meth c T locs cells slots) (hexec : p.tables.exec = Jvm.exec) {own : String} {index : Nat} {y : MethodName} {bytes : ByteArray} {maxL : Nat} {ret : Option FieldType}
    (hown : s.vm.findClass own = some m.cls) (hlink : (Cond.methodLink own index y).before args s = true) (hstat : (Cond.static y).before args s = true) (hinit : (Cond.initialized y.cls).before args s = true)
    (hcode : (Cond.code y bytes maxL ret).before args s = true) (hy : y.cls ≠ "java/lang/invoke/MethodHandle" ∧ y.cls ≠ "java/lang/invoke/VarHandle")
    {W9 : Nat} {Pre : Pt → Array Value → Prop} {Post : Pt → Array Value → Option Value → Pt → Prop} {PostX : Pt → Array Value → Addr → Pt → Prop} (hK : vx_Back l R p e below s args y 3 W9 Pre Post PostX)
    {g : JFrame} (hg : g.method = m) (hsize : g.locals.size = c.maxLocals) {argsL rest : List Value} (hlen : ∀ sig, parseMethodDescriptor y.desc = some sig → argsL.length = sig.parameters.length)
    (hstack : g.stack = argsL.reverse ++ rest) (hW : 2 * g.monitorRoom + (rest.map fun v => v.category).sum ≤ W9) (hdg : decode c.code g.pc = .ok (.invokestatic index, 3))
    (hpre : ∀ vm₁, s.WarmedH vm₁ → Pre ⟨T.setVm vm₁, locs, cells, slots⟩ argsL.toArray) :
    (∃ (v : Option Value) (vm₁ : Vm) (B : Pt), s.WarmedH vm₁ ∧ Stand p l e R s m args below meth c B.U B.locs B.cells B.slots ∧ Post ⟨T.setVm vm₁, locs, cells, slots⟩ argsL.toArray v B ∧
      ∀ target, Steps p.tables e below (B.U.setTop { g with pc := g.pc + 3, stack := v.toList ++ rest }) target → Steps p.tables e below (T.setTop g) target) ∨
    (∃ (q : Addr) (vm₁ : Vm) (B : Pt), s.WarmedH vm₁ ∧ Stand p l e R s m args below meth c B.U B.locs B.cells B.slots ∧ PostX ⟨T.setVm vm₁, locs, cells, slots⟩ argsL.toArray q B ∧
      Steps p.tables e below (T.setTop g) ((B.U.setTop { g with stack := rest }).pushFrame (.throwing q))) := by
  obtain ⟨mk, hnamed⟩ := Cond.code_named hcode
  obtain ⟨methM, cM, hmethM, -, -, -, -, -, -, hsigM⟩ := Cond.code_spec hnamed hcode
  have hstatic : methM.isStatic = true := Cond.static_spec hnamed hmethM hstat
  obtain ⟨kP, hkP, -⟩ := className_of_methodNamed hnamed
  have hinitP : kP.init = .initialized := Cond.initialized_spec (findClass_of_methodNamed hnamed) hkP hinit
  obtain ⟨vm₁, X₁, hstep₁⟩ := X.invokestatic hexec hown hlink hnamed hmethM hstatic hkP hinitP hy (g := g) hg (argsL := argsL) (rest := rest) (hlen _ hsigM) hstack hdg
  rcases hK m meth c ⟨T.setVm vm₁, locs, cells, slots⟩ { g with stack := rest } (.invokestatic index) mk argsL.toArray X₁ hg hsize hdg hW (X₁.named hnamed) (hpre vm₁ X₁.warmed) with ⟨v, B, X', hpost, hsteps⟩ | ⟨q, B, X', hpost, hsteps⟩
  · exact Or.inl ⟨v, vm₁, B, X₁.warmed, X', hpost, fun target h => hstep₁ _ fun acts => by rw [doInvoke_state]; exact hsteps.trans h⟩
  · exact Or.inr ⟨q, vm₁, B, X₁.warmed, X', hpost, hstep₁ _ fun acts => by rw [doInvoke_state]; exact hsteps⟩
end Calls
theorem vx_cls {s : State} {T : State} {vm₁ : Vm} {E : String} {k : ClassId} (hW : s.WarmedH vm₁) (h : (T.setVm vm₁).vm.findClass E = some k) : s.vm.findClass E = some k := by
  have h1 : vm₁.findClass E = some k := h
  rw [hW.alike.findClass] at h1
  exact h1
/-- the method's frame g, with q thrown over it -/
def vx_W (p : Program) (l : Launch) (e : Env) (R : Room) (s : State) (m : MethodId) (args : Array Value) (below : List Frame) (meth : Method) (c : Code) (H : Heap) (locs : List Loc) (cells slots : Nat) (Q : State → Prop) (g : JFrame) (q : Addr) : Prop :=
  ∀ T : State, T.heap = H → Stand p l e R s m args below meth c T locs cells slots → ∃ t, Steps p.tables e below ((T.setTop g).pushFrame (.throwing q)) t ∧ Q t
def vx_Run (p : Program) (l : Launch) (e : Env) (R : Room) (s : State) (m : MethodId) (args : Array Value) (below : List Frame) (meth : Method) (c : Code) (H : Heap) (locs : List Loc) (cells slots mc ms : Nat) (g : JFrame) (rest : List Value) (Qa : State → Outcome → State → Prop) (XC : String → State → State → Prop) (free : Addr → Prop) : Prop :=
  ∀ T : State, T.heap = H → Stand p l e R s m args below meth c T locs cells slots →
    (∃ (v : Option Value) (st₀ t T' : State) (L : List Loc), st₀.heap = H ∧ Stand p l e R s m args below meth c T' (locs ++ L) (cells + mc) (slots + ms) ∧ (∀ q ∈ L, free q.base) ∧ T'.heap = t.heap ∧ T'.vm = t.vm ∧ Qa st₀ (.returned v) t ∧
      Goes p e below T g T' { g with pc := g.pc + 3, stack := v.toList ++ rest }) ∨
    (∃ (q : Addr) (st₀ t T' : State) (L : List Loc) (E : String) (ce : Cell), st₀.heap = H ∧ Stand p l e R s m args below meth c T' (locs ++ L) (cells + mc) (slots + ms) ∧ (∀ z ∈ L, free z.base) ∧ T'.heap = t.heap ∧ T'.vm = t.vm ∧ XC E st₀ t ∧ t.heap[q]? = some ce ∧ ce.vm = .none ∧ s.vm.findClass E = some ce.cls ∧
      Steps p.tables e below (T.setTop g) ((T'.setTop { g with stack := rest }).pushFrame (.throwing q)))
def vx_X {S : Type} (px : S → Prop) (B : String → S → State → Prop) (A : Nat → Prop) : String → State → State → Prop := fun E st t => ∃ u : S, px u ∧ B E u t ∧ va_F A st t
section Runs
variable {p : Program} {l : Launch} {e : Env} {R : Room} {s : State} {m : MethodId} {args : Array Value} {below : List Frame} {meth : Method} {c : Code} {H : Heap} {locs : List Loc} {cells slots : Nat}
variable {y : MethodName} {bytes cc : ByteArray} {maxL nL mc ms n index : Nat} {ret : Option FieldType} {ws : List Cond} {rm : Room} {Pc : Array Value → State → Prop} {Qc : Array Value → State → Outcome → State → Prop} {XC : String → State → State → Prop} {free : Addr → Prop} {Ts : List Cond} {own C : String} {b : Addr} {As rest : List Value} {g : JFrame}
theorem vx_callBack (cb : CallB R s args own index y bytes maxL ret ws rm mc ms n) (hM : vx_Met l y ws rm Pc Qc XC mc ms free) (hbl : FrameBlind Pc) : vx_Back l R p e below s args y 3 8 (PreOf R mc ms Pc) (PostOf Qc mc ms free) (vx_Post XC mc ms free) := by
  obtain ⟨hrc, hrs, hfr, hlo, hws, hcw, -, hini, -⟩ := cb
  exact vx_back (bytes := bytes) (maxL := maxL) (ret := ret) hM hbl hrc hrs hfr hlo hws hcw (fun a' U hW => word_at hW (Or.inl (by first | rfl | simp [Cond.onTables, Cond.keeps, Cond.steady])) hini)
theorem vx_runV (S : CallFix p m c cc nL s args Ts own) (hM : vx_Met l y ws rm Pc Qc XC mc ms free) (cw : CallW R s args own C index y bytes maxL ret ws rm mc ms n) (hp : PreV s H C b Pc As)
    (hg : g.method = m) (hn : As.length = n) (hsize : g.locals.size = nL) (hstack : g.stack = As.reverse ++ .ref b :: rest) (hW : 2 * g.monitorRoom + (rest.map fun v => v.category).sum ≤ 8) (hdg : decode cc g.pc = .ok (.invokevirtual index, 3)) (hf : cells + mc ≤ R.cells ∧ slots + ms ≤ R.slots) :
    vx_Run p l e R s m args below meth c H locs cells slots mc ms g rest (Qc (Value.ref b :: As).toArray) XC free := by
  have hK : vx_Back l R p e below s args y 3 8 (PreOf R mc ms Pc) (PostOf Qc mc ms free) (vx_Post XC mc ms free) := vx_callBack cw.1 hM hp.1
  obtain ⟨⟨-, -, -, -, -, -, hcode, -, hy, hlen, hl⟩, hin, hse⟩ := cw
  obtain ⟨hx, hb, hml, ho, -⟩ := S
  obtain ⟨-, ⟨cellB, hcB, hoB, hclB⟩, hPc⟩ := hp
  intro T hT X
  rcases vx_callV X hx (C := C) (bytes := bytes) (maxL := maxL) (ret := ret) ho hl hin hse hcode hy hK (by rw [hT]; exact hcB) hoB hclB hg (hsize.trans hml.symm) (argsL := As) (rest := rest) (fun sig h => hn.trans (hlen sig h)) hstack hW (by rw [hb]; exact hdg)
    (fun vm₁ hW₁ => ⟨hf.1, hf.2, hPc (T.setVm vm₁) hT hW₁⟩) with ⟨v, vm₁, ⟨U', l2, c2, s2⟩, hW₁, X', ⟨g', mk, t, L, e1, e2, hq, h1, hL, h2, h3⟩, st⟩ | ⟨q, vm₁, ⟨U', l2, c2, s2⟩, hW₁, X', ⟨g', mk, t, L, E, ce, e1, e2, hq, hce, hcv, hcl, h1, hL, h2, h3⟩, st⟩
  · dsimp only [Pt.U, Pt.locs, Pt.cells, Pt.slots] at X' e1 e2 h1 h2 h3 st
    subst h1; subst h2; subst h3
    exact Or.inl ⟨v, (T.setVm vm₁).calling g' mk (Value.ref b :: As).toArray, t, U', L, hT, X', hL, e1, e2, hq, st⟩
  · dsimp only [Pt.U, Pt.locs, Pt.cells, Pt.slots] at X' e1 e2 h1 h2 h3 st hcl
    subst h1; subst h2; subst h3
    exact Or.inr ⟨q, (T.setVm vm₁).calling g' mk (Value.ref b :: As).toArray, t, U', L, E, ce, hT, X', hL, e1, e2, hq, hce, hcv, vx_cls hW₁ hcl, st⟩
theorem vx_runS (S : CallFix p m c cc nL s args Ts own) (hM : vx_Met l y ws rm Pc Qc XC mc ms free) (cw : CallB R s args own index y bytes maxL ret ws rm mc ms n ∧ (Cond.static y).before args s = true) (hp : PreS s H Pc As)
    (hg : g.method = m) (hn : As.length = n) (hsize : g.locals.size = nL) (hstack : g.stack = As.reverse ++ rest) (hW : 2 * g.monitorRoom + (rest.map fun v => v.category).sum ≤ 8) (hdg : decode cc g.pc = .ok (.invokestatic index, 3)) (hf : cells + mc ≤ R.cells ∧ slots + ms ≤ R.slots) :
    vx_Run p l e R s m args below meth c H locs cells slots mc ms g rest (Qc As.toArray) XC free := by
  have hK : vx_Back l R p e below s args y 3 8 (PreOf R mc ms Pc) (PostOf Qc mc ms free) (vx_Post XC mc ms free) := vx_callBack cw.1 hM hp.1
  obtain ⟨⟨-, -, -, -, -, -, hcode, hini, hy, hlen, hl⟩, hstt⟩ := cw
  obtain ⟨hx, hb, hml, ho, -⟩ := S
  intro T hT X
  rcases vx_callS X hx (bytes := bytes) (maxL := maxL) (ret := ret) ho hl hstt hini hcode hy hK hg (hsize.trans hml.symm) (argsL := As) (rest := rest) (fun sig h => hn.trans (hlen sig h)) hstack hW (by rw [hb]; exact hdg)
    (fun vm₁ hW₁ => ⟨hf.1, hf.2, hp.2 (T.setVm vm₁) hT hW₁⟩) with ⟨v, vm₁, ⟨U', l2, c2, s2⟩, hW₁, X', ⟨g', mk, t, L, e1, e2, hq, h1, hL, h2, h3⟩, st⟩ | ⟨q, vm₁, ⟨U', l2, c2, s2⟩, hW₁, X', ⟨g', mk, t, L, E, ce, e1, e2, hq, hce, hcv, hcl, h1, hL, h2, h3⟩, st⟩
  · dsimp only [Pt.U, Pt.locs, Pt.cells, Pt.slots] at X' e1 e2 h1 h2 h3 st
    subst h1; subst h2; subst h3
    exact Or.inl ⟨v, (T.setVm vm₁).calling g' mk As.toArray, t, U', L, hT, X', hL, e1, e2, hq, st⟩
  · dsimp only [Pt.U, Pt.locs, Pt.cells, Pt.slots] at X' e1 e2 h1 h2 h3 st hcl
    subst h1; subst h2; subst h3
    exact Or.inr ⟨q, (T.setVm vm₁).calling g' mk As.toArray, t, U', L, E, ce, hT, X', hL, e1, e2, hq, hce, hcv, vx_cls hW₁ hcl, st⟩
end Runs
section Rows
variable {p : Program} {l : Launch} {e : Env} {R : Room} {s : State} {m : MethodId} {args : Array Value} {below : List Frame} {meth : Method} {c : Code} {H : Heap} {locs : List Loc} {cells slots : Nat} {Q : State → Prop}
variable {mc ms : Nat} {free : Addr → Prop} {A0 A1 : Nat → Prop} {H0 : Heap} {a : Array Value} {pc : Nat} {ls : Array Slot} {st0 rest : List Value}
theorem vx_keep {st₀ t T' : State} {L : List Loc} (h0 : st₀.heap = H) (e1 : T'.heap = t.heap) (hS : va_S A0 H0 H locs) (hA : ∀ q, q < H.size → A1 q → A0 q) (hf : ∀ q, free q → A0 q) (hL : ∀ q ∈ L, free q.base) (hF : va_F A1 st₀ t) :
    H.size ≤ T'.heap.size ∧ (∀ q : Nat, q < H.size → ¬ A1 q → T'.heap[q]? = H[q]?) ∧ va_S A0 H0 T'.heap (locs ++ L) := by
  obtain ⟨hz, hk⟩ := hF
  rw [h0] at hz hk
  exact ⟨by rw [e1]; exact hz, fun q h1 h2 => by rw [e1]; exact hk q h1 h2,
    ⟨Nat.le_trans hS.1 (by rw [e1]; exact hz), fun q h1 h2 => by rw [e1, hk q (Nat.lt_of_lt_of_le h1 hS.1) (fun z => h2 (hA q (Nat.lt_of_lt_of_le h1 hS.1) z))]; exact hS.2.1 q h1 h2, fun q hq => by
      rcases List.mem_append.mp hq with h | h
      · exact hS.2.2 q h
      · exact hf _ (hL q h)⟩⟩
theorem vx_calli {S SX : Type} {post : Int32 → S → Prop} {px : SX → Prop} {B : S → State → Prop} {BX : String → SX → State → Prop} {AX : Nat → Prop} (hr : vx_Run p l e R s m args below meth c H locs cells slots mc ms (F0 m pc ls st0) rest (va_Qi post B A1 a) (vx_X px BX AX) free) (hS : va_S A0 H0 H locs) (hA : ∀ q, q < H.size → A1 q → A0 q) (hf : ∀ q, free q → A0 q) (hAX : ∀ q, q < H.size → AX q → A0 q)
    (kx : ∀ (E : String) (ce : Cell) (q9 : Addr) (u : SX) (t : State) (H1 : Heap) (locs1 : List Loc), t.heap = H1 → s.vm.Alike t.vm → px u → BX E u t → H.size ≤ H1.size → (∀ q : Nat, q < H.size → ¬ AX q → H1[q]? = H[q]?) → va_S A0 H0 H1 locs1 → H1[q9]? = some ce → ce.vm = .none → s.vm.findClass E = some ce.cls → vx_W p l e R s m args below meth c H1 locs1 (cells + mc) (slots + ms) Q (F0 m pc ls rest) q9)
    (kk : ∀ (r : Int32) (u : S) (t : State) (H1 : Heap) (locs1 : List Loc), t.heap = H1 → s.vm.Alike t.vm → post r u → B u t → H.size ≤ H1.size → (∀ q : Nat, q < H.size → ¬ A1 q → H1[q]? = H[q]?) → va_S A0 H0 H1 locs1 → W p l e R s m args below meth c H1 locs1 (cells + mc) (slots + ms) Q (F0 m (pc + 3) ls (.int r :: rest))) : W p l e R s m args below meth c H locs cells slots Q (F0 m pc ls st0) := by
  intro T hT X
  rcases hr T hT X with ⟨v, st₀, t, T', L, h0, X', hL, e1, e2, ⟨⟨r, u, hv, hp, hb⟩, hF⟩, st⟩ | ⟨q, st₀, t, T', L, E, ce, h0, X', hL, e1, e2, ⟨u, hp, hb, hF⟩, hce, hcv, hcl, st⟩
  · cases hv
    obtain ⟨k1, k2, k3⟩ := vx_keep h0 e1 hS hA hf hL hF
    obtain ⟨t2, a1, b1⟩ := kk r u t T'.heap (locs ++ L) e1.symm (by rw [← e2]; exact X'.warmed.alike) hp hb k1 k2 k3 T' rfl X'
    exact ⟨t2, st t2 a1, b1⟩
  · obtain ⟨k1, k2, k3⟩ := vx_keep h0 e1 hS hAX hf hL hF
    obtain ⟨t2, a1, b1⟩ := kx E ce q u t T'.heap (locs ++ L) e1.symm (by rw [← e2]; exact X'.warmed.alike) hp hb k1 k2 k3 (by rw [e1]; exact hce) hcv hcl T' rfl X'
    exact ⟨t2, st.trans a1, b1⟩
theorem vx_calll {S SX : Type} {post : Int64 → S → Prop} {px : SX → Prop} {B : S → State → Prop} {BX : String → SX → State → Prop} {AX : Nat → Prop} (hr : vx_Run p l e R s m args below meth c H locs cells slots mc ms (F0 m pc ls st0) rest (va_Ql post B A1 a) (vx_X px BX AX) free) (hS : va_S A0 H0 H locs) (hA : ∀ q, q < H.size → A1 q → A0 q) (hf : ∀ q, free q → A0 q) (hAX : ∀ q, q < H.size → AX q → A0 q)
    (kx : ∀ (E : String) (ce : Cell) (q9 : Addr) (u : SX) (t : State) (H1 : Heap) (locs1 : List Loc), t.heap = H1 → s.vm.Alike t.vm → px u → BX E u t → H.size ≤ H1.size → (∀ q : Nat, q < H.size → ¬ AX q → H1[q]? = H[q]?) → va_S A0 H0 H1 locs1 → H1[q9]? = some ce → ce.vm = .none → s.vm.findClass E = some ce.cls → vx_W p l e R s m args below meth c H1 locs1 (cells + mc) (slots + ms) Q (F0 m pc ls rest) q9)
    (kk : ∀ (r : Int64) (u : S) (t : State) (H1 : Heap) (locs1 : List Loc), t.heap = H1 → s.vm.Alike t.vm → post r u → B u t → H.size ≤ H1.size → (∀ q : Nat, q < H.size → ¬ A1 q → H1[q]? = H[q]?) → va_S A0 H0 H1 locs1 → W p l e R s m args below meth c H1 locs1 (cells + mc) (slots + ms) Q (F0 m (pc + 3) ls (.long r :: rest))) : W p l e R s m args below meth c H locs cells slots Q (F0 m pc ls st0) := by
  intro T hT X
  rcases hr T hT X with ⟨v, st₀, t, T', L, h0, X', hL, e1, e2, ⟨⟨r, u, hv, hp, hb⟩, hF⟩, st⟩ | ⟨q, st₀, t, T', L, E, ce, h0, X', hL, e1, e2, ⟨u, hp, hb, hF⟩, hce, hcv, hcl, st⟩
  · cases hv
    obtain ⟨k1, k2, k3⟩ := vx_keep h0 e1 hS hA hf hL hF
    obtain ⟨t2, a1, b1⟩ := kk r u t T'.heap (locs ++ L) e1.symm (by rw [← e2]; exact X'.warmed.alike) hp hb k1 k2 k3 T' rfl X'
    exact ⟨t2, st t2 a1, b1⟩
  · obtain ⟨k1, k2, k3⟩ := vx_keep h0 e1 hS hAX hf hL hF
    obtain ⟨t2, a1, b1⟩ := kx E ce q u t T'.heap (locs ++ L) e1.symm (by rw [← e2]; exact X'.warmed.alike) hp hb k1 k2 k3 (by rw [e1]; exact hce) hcv hcl T' rfl X'
    exact ⟨t2, st.trans a1, b1⟩
theorem vx_callf {S SX : Type} {post : UInt32 → S → Prop} {px : SX → Prop} {B : S → State → Prop} {BX : String → SX → State → Prop} {AX : Nat → Prop} (hr : vx_Run p l e R s m args below meth c H locs cells slots mc ms (F0 m pc ls st0) rest (va_Qf post B A1 a) (vx_X px BX AX) free) (hS : va_S A0 H0 H locs) (hA : ∀ q, q < H.size → A1 q → A0 q) (hf : ∀ q, free q → A0 q) (hAX : ∀ q, q < H.size → AX q → A0 q)
    (kx : ∀ (E : String) (ce : Cell) (q9 : Addr) (u : SX) (t : State) (H1 : Heap) (locs1 : List Loc), t.heap = H1 → s.vm.Alike t.vm → px u → BX E u t → H.size ≤ H1.size → (∀ q : Nat, q < H.size → ¬ AX q → H1[q]? = H[q]?) → va_S A0 H0 H1 locs1 → H1[q9]? = some ce → ce.vm = .none → s.vm.findClass E = some ce.cls → vx_W p l e R s m args below meth c H1 locs1 (cells + mc) (slots + ms) Q (F0 m pc ls rest) q9)
    (kk : ∀ (r : UInt32) (u : S) (t : State) (H1 : Heap) (locs1 : List Loc), t.heap = H1 → s.vm.Alike t.vm → post r u → B u t → H.size ≤ H1.size → (∀ q : Nat, q < H.size → ¬ A1 q → H1[q]? = H[q]?) → va_S A0 H0 H1 locs1 → W p l e R s m args below meth c H1 locs1 (cells + mc) (slots + ms) Q (F0 m (pc + 3) ls (.float r :: rest))) : W p l e R s m args below meth c H locs cells slots Q (F0 m pc ls st0) := by
  intro T hT X
  rcases hr T hT X with ⟨v, st₀, t, T', L, h0, X', hL, e1, e2, ⟨⟨r, u, hv, hp, hb⟩, hF⟩, st⟩ | ⟨q, st₀, t, T', L, E, ce, h0, X', hL, e1, e2, ⟨u, hp, hb, hF⟩, hce, hcv, hcl, st⟩
  · cases hv
    obtain ⟨k1, k2, k3⟩ := vx_keep h0 e1 hS hA hf hL hF
    obtain ⟨t2, a1, b1⟩ := kk r u t T'.heap (locs ++ L) e1.symm (by rw [← e2]; exact X'.warmed.alike) hp hb k1 k2 k3 T' rfl X'
    exact ⟨t2, st t2 a1, b1⟩
  · obtain ⟨k1, k2, k3⟩ := vx_keep h0 e1 hS hAX hf hL hF
    obtain ⟨t2, a1, b1⟩ := kx E ce q u t T'.heap (locs ++ L) e1.symm (by rw [← e2]; exact X'.warmed.alike) hp hb k1 k2 k3 (by rw [e1]; exact hce) hcv hcl T' rfl X'
    exact ⟨t2, st.trans a1, b1⟩
theorem vx_calld {S SX : Type} {post : UInt64 → S → Prop} {px : SX → Prop} {B : S → State → Prop} {BX : String → SX → State → Prop} {AX : Nat → Prop} (hr : vx_Run p l e R s m args below meth c H locs cells slots mc ms (F0 m pc ls st0) rest (va_Qd post B A1 a) (vx_X px BX AX) free) (hS : va_S A0 H0 H locs) (hA : ∀ q, q < H.size → A1 q → A0 q) (hf : ∀ q, free q → A0 q) (hAX : ∀ q, q < H.size → AX q → A0 q)
    (kx : ∀ (E : String) (ce : Cell) (q9 : Addr) (u : SX) (t : State) (H1 : Heap) (locs1 : List Loc), t.heap = H1 → s.vm.Alike t.vm → px u → BX E u t → H.size ≤ H1.size → (∀ q : Nat, q < H.size → ¬ AX q → H1[q]? = H[q]?) → va_S A0 H0 H1 locs1 → H1[q9]? = some ce → ce.vm = .none → s.vm.findClass E = some ce.cls → vx_W p l e R s m args below meth c H1 locs1 (cells + mc) (slots + ms) Q (F0 m pc ls rest) q9)
    (kk : ∀ (r : UInt64) (u : S) (t : State) (H1 : Heap) (locs1 : List Loc), t.heap = H1 → s.vm.Alike t.vm → post r u → B u t → H.size ≤ H1.size → (∀ q : Nat, q < H.size → ¬ A1 q → H1[q]? = H[q]?) → va_S A0 H0 H1 locs1 → W p l e R s m args below meth c H1 locs1 (cells + mc) (slots + ms) Q (F0 m (pc + 3) ls (.double r :: rest))) : W p l e R s m args below meth c H locs cells slots Q (F0 m pc ls st0) := by
  intro T hT X
  rcases hr T hT X with ⟨v, st₀, t, T', L, h0, X', hL, e1, e2, ⟨⟨r, u, hv, hp, hb⟩, hF⟩, st⟩ | ⟨q, st₀, t, T', L, E, ce, h0, X', hL, e1, e2, ⟨u, hp, hb, hF⟩, hce, hcv, hcl, st⟩
  · cases hv
    obtain ⟨k1, k2, k3⟩ := vx_keep h0 e1 hS hA hf hL hF
    obtain ⟨t2, a1, b1⟩ := kk r u t T'.heap (locs ++ L) e1.symm (by rw [← e2]; exact X'.warmed.alike) hp hb k1 k2 k3 T' rfl X'
    exact ⟨t2, st t2 a1, b1⟩
  · obtain ⟨k1, k2, k3⟩ := vx_keep h0 e1 hS hAX hf hL hF
    obtain ⟨t2, a1, b1⟩ := kx E ce q u t T'.heap (locs ++ L) e1.symm (by rw [← e2]; exact X'.warmed.alike) hp hb k1 k2 k3 (by rw [e1]; exact hce) hcv hcl T' rfl X'
    exact ⟨t2, st.trans a1, b1⟩
theorem vx_callv {S SX : Type} {post : S → Prop} {px : SX → Prop} {B : S → State → Prop} {BX : String → SX → State → Prop} {AX : Nat → Prop} (hr : vx_Run p l e R s m args below meth c H locs cells slots mc ms (F0 m pc ls st0) rest (va_Qv post B A1 a) (vx_X px BX AX) free) (hS : va_S A0 H0 H locs) (hA : ∀ q, q < H.size → A1 q → A0 q) (hf : ∀ q, free q → A0 q) (hAX : ∀ q, q < H.size → AX q → A0 q)
    (kx : ∀ (E : String) (ce : Cell) (q9 : Addr) (u : SX) (t : State) (H1 : Heap) (locs1 : List Loc), t.heap = H1 → s.vm.Alike t.vm → px u → BX E u t → H.size ≤ H1.size → (∀ q : Nat, q < H.size → ¬ AX q → H1[q]? = H[q]?) → va_S A0 H0 H1 locs1 → H1[q9]? = some ce → ce.vm = .none → s.vm.findClass E = some ce.cls → vx_W p l e R s m args below meth c H1 locs1 (cells + mc) (slots + ms) Q (F0 m pc ls rest) q9)
    (kk : ∀ (u : S) (t : State) (H1 : Heap) (locs1 : List Loc), t.heap = H1 → s.vm.Alike t.vm → post u → B u t → H.size ≤ H1.size → (∀ q : Nat, q < H.size → ¬ A1 q → H1[q]? = H[q]?) → va_S A0 H0 H1 locs1 → W p l e R s m args below meth c H1 locs1 (cells + mc) (slots + ms) Q (F0 m (pc + 3) ls (rest))) : W p l e R s m args below meth c H locs cells slots Q (F0 m pc ls st0) := by
  intro T hT X
  rcases hr T hT X with ⟨v, st₀, t, T', L, h0, X', hL, e1, e2, ⟨⟨u, hv, hp, hb⟩, hF⟩, st⟩ | ⟨q, st₀, t, T', L, E, ce, h0, X', hL, e1, e2, ⟨u, hp, hb, hF⟩, hce, hcv, hcl, st⟩
  · cases hv
    obtain ⟨k1, k2, k3⟩ := vx_keep h0 e1 hS hA hf hL hF
    obtain ⟨t2, a1, b1⟩ := kk u t T'.heap (locs ++ L) e1.symm (by rw [← e2]; exact X'.warmed.alike) hp hb k1 k2 k3 T' rfl X'
    exact ⟨t2, st t2 a1, b1⟩
  · obtain ⟨k1, k2, k3⟩ := vx_keep h0 e1 hS hAX hf hL hF
    obtain ⟨t2, a1, b1⟩ := kx E ce q u t T'.heap (locs ++ L) e1.symm (by rw [← e2]; exact X'.warmed.alike) hp hb k1 k2 k3 (by rw [e1]; exact hce) hcv hcl T' rfl X'
    exact ⟨t2, st.trans a1, b1⟩
/-- caught by the row x of this method's table; the rows ahead don't take it -/
theorem vx_catch {own name : String} {E : String} {ce : Cell} {q : Addr} (hown : s.vm.findClass own = some m.cls) (pre : List ExceptionTableEntry) (x : ExceptionTableEntry) (suf : List ExceptionTableEntry) (hsplit : c.exceptionTable.toList = pre ++ x :: suf)
    (hpass : ∀ z ∈ pre, covers z pc = false ∨ (z.catchType ≠ 0 ∧ ∃ nm : String, (Cond.classLink own z.catchType nm).before args s = true ∧ va_Nc E nm s)) (hx : covers x pc = true) (h0 : x.catchType ≠ 0)
    (hlink : (Cond.classLink own x.catchType name).before args s = true) (hcast : (Cond.castable E name).before args s = true) (hcell : H[q]? = some ce) (hv : ce.vm = .none) (hcl : s.vm.findClass E = some ce.cls)
    (kk : W p l e R s m args below meth c H locs cells slots Q (F0 m x.handlerPc ls [.ref q])) : vx_W p l e R s m args below meth c H locs cells slots Q (F0 m pc ls rest) q := by
  intro T hT X
  have hpl : e.platform.magicAccessors = ({} : Platform).magicAccessors := by rw [X.admits.platform]
  obtain ⟨c3, c4, hc3, hc4, hasg⟩ := Cond.castable_spec hcast
  cases Option.some.inj (hc3.symm.trans hcl)
  obtain ⟨c5, hc5, hcl5⟩ := Cond.classLink_spec hown hlink e.platform hpl
  cases Option.some.inj (hc4.symm.trans hc5)
  obtain ⟨vm', X', st⟩ := X.thenCaughtThrough q (g := F0 m pc ls rest) rfl (Steps.refl _) (by rw [hT]; exact hcell) (by rw [hv]; rfl) (by obtain ⟨k9, h9, -⟩ := Vm.findClass_spec hcl; exact ⟨k9, h9⟩) pre x suf hsplit
    (fun z hz => by
      rcases hpass z hz with h | ⟨hz0, nm, hl1, hn1⟩
      · exact Or.inl h
      · obtain ⟨c6, hc6, hcl6⟩ := Cond.classLink_spec hown hl1 e.platform hpl
        obtain ⟨a8, b8, h1, h2, h3⟩ := hn1
        cases Option.some.inj (h1.symm.trans hcl)
        cases Option.some.inj (h2.symm.trans hc6)
        exact Or.inr ⟨hz0, _, hcl6, h3⟩) hx (Or.inr ⟨h0, c4, hcl5, hasg⟩)
  obtain ⟨t, a1, b1⟩ := kk (T.setVm vm') hT X'
  exact ⟨t, st.trans a1, b1⟩
end Rows
section Ends
variable {p : Program} {l : Launch} {e : Env} {R : Room} {s : State} {m : MethodId} {args : Array Value} {below : List Frame} {meth : Method} {c : Code} {H : Heap} {locs : List Loc} {cells slots : Nat} {Q : State → Prop}
variable {mc ms : Nat} {free : Addr → Prop} {A0 A1 : Nat → Prop} {H0 : Heap} {a : Array Value} {ls : Array Slot} {st0 rest : List Value}
variable {Qc : Array Value → State → Outcome → State → Prop} {XC : String → State → State → Prop}
/-- what a body that may throw owes at its end -/
def vx_MQ (below : List Frame) (Qc : Array Value → State → Outcome → State → Prop) (XC : String → State → State → Prop) (a : Array Value) (s : State) (mc ms : Nat) (free : Addr → Prop) : State → Prop := fun t =>
  ∃ o, t.status = .running ∧ Ended t below o ∧ vx_Q Qc XC mc ms free a s o t
theorem vx_ret {g : JFrame} {mc ms : Nat} (k : W p l e R s m args below meth c H locs cells slots (MQ below Qc args s mc ms free) g) : W p l e R s m args below meth c H locs cells slots (vx_MQ below Qc XC args s mc ms free) g := by
  intro T hT X
  obtain ⟨t, a1, o, b1, b2, b3, b4⟩ := k T hT X
  exact ⟨t, a1, o, b1, b2, Or.inl ⟨b3, b4⟩⟩
/-- not caught here: it goes on to the caller -/
theorem vx_widen {g : JFrame} {q : Addr} {k n : Nat} (h1 : cells ≤ k) (h2 : slots ≤ n) (kk : vx_W p l e R s m args below meth c H locs k n Q g q) : vx_W p l e R s m args below meth c H locs cells slots Q g q := fun T hT X => kk T hT (stand_widen X h1 h2)
theorem vx_out {pc : Nat} {E : String} {ce : Cell} {q : Addr} {mc ms : Nat} (hout : ∀ x ∈ c.exceptionTable.toList, covers x pc = false) (hlocks : meth.locks = false) (hcell : H[q]? = some ce) (hv : ce.vm = .none) (hcl : s.vm.findClass E = some ce.cls)
    (hx : ∀ t : State, t.heap = H → s.vm.Alike t.vm → XC E s t) (hf : ∀ z ∈ locs, free z.base) (hc : cells ≤ mc) (hs : slots ≤ ms) :
    vx_W p l e R s m args below meth c H locs cells slots (vx_MQ below Qc XC args s mc ms free) (F0 m pc ls rest) q := by
  intro T hT X
  obtain ⟨st1, hrun, hend, hW, hsm⟩ := X.leaveThrown q (g := F0 m pc ls rest) rfl rfl rfl hout hlocks
  have hcell9 : (T.setFrames (.throwing q :: below)).heap[q]? = some ce := by
    show T.heap[q]? = some ce
    rw [hT]; exact hcell
  exact ⟨_, st1, .threw q, hrun, hend, Or.inr ⟨q, rfl, E, ce, locs, hx _ hT hW.alike, hcell9, hv, hcl, hW, hsm.mono hc hs, hf⟩⟩
theorem vx_frame {U : State} {k n : Nat} (h : s.sameButNew ({ U with vm := s.vm } : State) locs k n) : s.heap.size ≤ U.heap.size ∧ ∀ q : Nat, q < s.heap.size → (∀ z ∈ locs, z.base ≠ q) → U.heap[q]? = s.heap[q]? := by
  obtain ⟨-, h2, -, -, -, h6⟩ := h
  refine ⟨h2, fun q hq hz => ?_⟩
  obtain ⟨c9, e1, e2, e3, e4⟩ := h6 q _ (Array.getElem?_eq_getElem hq)
  have hs : c9.slots = (s.heap[q]).slots := Array.ext_getElem? fun i => e4 i fun hm => hz _ hm rfl
  have h9 : c9 = s.heap[q] := by
    rw [hs] at e2
    exact e2
  have e5 : U.heap[q]? = some c9 := e1
  rw [e5, h9, Array.getElem?_eq_getElem hq]
/-- the words of a throw but the four that speak of the heap -/
def vx_no (w : Cond) : Bool := decide (w ≠ .isRef (.static Bundle.tN "UNASSIGNED_STACK" Bundle.steD)) && decide (w ≠ .isRef (.static Bundle.tN "SUPPRESSED_SENTINEL" Bundle.listD)) && decide (w ≠ .laysStatic Bundle.tN "UNASSIGNED_STACK" Bundle.steD) && decide (w ≠ .laysStatic Bundle.tN "SUPPRESSED_SENTINEL" Bundle.listD)
def vx_at0 (own : String) (ic : Nat) (X : String) (names : List String) : List Cond := (Bundle.ownAtoms0 own ic X names).filter vx_no
def vx_atS (own : String) (ic : Nat) (X : String) (names : List String) : List Cond := (Bundle.ownAtoms own ic X names).filter vx_no
/-- a word that the tables alone decide, or a good one -/
def vx_ot (w : Cond) : Bool := w.onTables || goodWord w
theorem vx_ot_at {args a' : Array Value} {s U : State} {w : Cond} (hW : s.WarmedH U.vm) (hvm : s.vm = U.vm) (hg : vx_ot w = true) (h : w.before args s = true) : w.before a' U = true := by
  simp only [vx_ot, Bool.or_eq_true] at hg
  rcases hg with hg | hg
  · exact va_tabs hg hvm h
  · exact word_at hW (good_of_word hg) h
/-- a list's words: the good ones out of the method's own list, the others by premises of their own -/
theorem vx_hat {args : Array Value} {s : State} {L B : List Cond} (h1 : ∀ w ∈ L.filter goodWord, w.before args s = true) (h2 : ∀ w ∈ L.filter (fun w => !goodWord w), w ∈ B) (h3 : ∀ w ∈ B, w.before args s = true) : ∀ w ∈ L, w.before args s = true := by
  intro w hw
  by_cases g : goodWord w = true
  · exact h1 w (List.mem_filter.mpr ⟨hw, g⟩)
  · refine h3 w (h2 w (List.mem_filter.mpr ⟨hw, ?_⟩))
    show (!goodWord w) = true
    cases hgw : goodWord w
    · rfl
    · exact absurd hgw g
theorem vx_c {args : Array Value} {s : State} {w : Cond} {B : List Cond} (h : w.before args s = true) (t : ∀ w ∈ B, w.before args s = true) : ∀ w' ∈ w :: B, w'.before args s = true := fun w' h' => (List.mem_cons.mp h').elim (fun e => by rw [e]; exact h) (t w')
theorem vx_n {args : Array Value} {s : State} : ∀ w ∈ ([] : List Cond), w.before args s = true := fun _ h => nomatch h
theorem vx_own {args : Array Value} {s : State} {L : List Cond} (h1 : ∀ w ∈ L.filter vx_no, w.before args s = true)
    (hU : (Cond.isRef (.static Bundle.tN "UNASSIGNED_STACK" Bundle.steD)).before args s = true) (hN : (Cond.isRef (.static Bundle.tN "SUPPRESSED_SENTINEL" Bundle.listD)).before args s = true)
    (lU : (Cond.laysStatic Bundle.tN "UNASSIGNED_STACK" Bundle.steD).before args s = true) (lN : (Cond.laysStatic Bundle.tN "SUPPRESSED_SENTINEL" Bundle.listD).before args s = true) : ∀ w ∈ L, w.before args s = true := by
  intro w hw
  by_cases e1 : w = .isRef (.static Bundle.tN "UNASSIGNED_STACK" Bundle.steD)
  · rw [e1]; exact hU
  · by_cases e2 : w = .isRef (.static Bundle.tN "SUPPRESSED_SENTINEL" Bundle.listD)
    · rw [e2]; exact hN
    · by_cases e3 : w = .laysStatic Bundle.tN "UNASSIGNED_STACK" Bundle.steD
      · rw [e3]; exact lU
      · by_cases e4 : w = .laysStatic Bundle.tN "SUPPRESSED_SENTINEL" Bundle.listD
        · rw [e4]; exact lN
        · exact h1 w (List.mem_filter.mpr ⟨hw, by unfold vx_no; rw [decide_eq_true e1, decide_eq_true e2, decide_eq_true e3, decide_eq_true e4]; rfl⟩)
/-- where a static field lies, its class's statics cell in H -/
def vx_L (C n d : String) (A : Nat → Prop) (U : State) (H : Heap) : Prop := ∃ (c : ClassId) (k : Class) (i : Nat) (f : Field) (a : Nat) (cell : Cell), U.vm.findClass C = some c ∧ U.fieldFound? C n d = some (c, k, i, f) ∧ f.isStatic = true ∧ k.statics = some a ∧ H[a]? = some cell ∧ cell.vm.isStatics = true ∧ cell.cls = c ∧ f.slot < cell.slots.size ∧ k.staticTypes[f.slot]? = some f.type ∧ ¬ A a
theorem vx_L.moved {C n d : String} {A : Nat → Prop} {u U : State} {H : Heap} (hvm : u.vm.Alike U.vm) (h : vx_L C n d A u H) : vx_L C n d A U H := by
  obtain ⟨c, k, i, f, a, cell, h1, h2, h3, h4, h5, h6, h7, h8, h9, h10⟩ := h
  obtain ⟨k', hi', he⟩ := State.fieldFound?_setVm hvm h2
  exact ⟨c, k', i, f, a, cell, by rw [hvm.findClass]; exact h1, hi', h3, by rw [he]; exact h4, h5, h6, h7, h8, by rw [he]; exact h9, h10⟩
theorem vx_L.kept {C n d : String} {A : Nat → Prop} {U : State} {H H1 : Heap} (h : vx_L C n d A U H) (hq : ∀ a : Nat, a < H.size → ¬ A a → H1[a]? = H[a]?) : vx_L C n d A U H1 := by
  obtain ⟨c, k, i, f, a, cell, h1, h2, h3, h4, h5, h6, h7, h8, h9, h10⟩ := h
  exact ⟨c, k, i, f, a, cell, h1, h2, h3, h4, by rw [hq a (Array.getElem?_eq_some_iff.mp h5).1 h10]; exact h5, h6, h7, h8, h9, h10⟩
theorem vx_L.narrow {C n d : String} {A B : Nat → Prop} {U : State} {H : Heap} (h : vx_L C n d A U H) (hAB : ∀ q, B q → A q) : vx_L C n d B U H := by
  obtain ⟨c, k, i, f, a, cell, h1, h2, h3, h4, h5, h6, h7, h8, h9, h10⟩ := h
  exact ⟨c, k, i, f, a, cell, h1, h2, h3, h4, h5, h6, h7, h8, h9, fun z => h10 (hAB _ z)⟩
theorem vx_L.word {C n d : String} {A : Nat → Prop} {s : State} {args : Array Value} (h : vx_L C n d A s s.heap) : (Cond.laysStatic C n d).before args s = true := by
  obtain ⟨c, k, i, f, a, cell, h1, h2, h3, h4, h5, h6, h7, h8, h9, -⟩ := h
  show (Cond.laysStatic C n d).holds args s none s [] = true
  exact Cond.laysStatic_of h1 h2 h3 h4 h5 h6 h7 h8 h9
/-- .. and what it holds: null or some reference -/
def vx_Zq (C n d : String) (A : Nat → Prop) (U : State) (H : Heap) : Prop := va_Zq C n d A U H ∧ vx_L C n d A U H
theorem vx_Zq.moved {C n d : String} {A : Nat → Prop} {u U : State} {H : Heap} (hvm : u.vm.Alike U.vm) (h : vx_Zq C n d A u H) : vx_Zq C n d A U H := ⟨va_Zq.moved hvm h.1, vx_L.moved hvm h.2⟩
theorem vx_Zq.kept {C n d : String} {A : Nat → Prop} {U : State} {H H1 : Heap} (h : vx_Zq C n d A U H) (hq : ∀ a : Nat, a < H.size → ¬ A a → H1[a]? = H[a]?) : vx_Zq C n d A U H1 := ⟨va_Zq.kept h.1 hq, vx_L.kept h.2 hq⟩
theorem vx_Zq.narrow {C n d : String} {A B : Nat → Prop} {U : State} {H : Heap} (h : vx_Zq C n d A U H) (hAB : ∀ q, B q → A q) : vx_Zq C n d B U H := ⟨va_Zq.narrow h.1 hAB, vx_L.narrow h.2 hAB⟩
theorem vx_Zqof {args : Array Value} {s : State} {C n d : String} {A : Nat → Prop} (hl : (Cond.laysStatic C n d).before args s = true) (hini : (Cond.initialized C).before args s = true) (h : (Cond.isRef (.static C n d)).before args s = true) (hA : ∀ a : Nat, a < s.heap.size → ¬ A a) : vx_Zq C n d A s s.heap := by
  refine ⟨va_Zqof hl hini h hA, ?_⟩
  obtain ⟨c, k, i, f, a, cell, h1, h2, h3, h4, h5, h6, h7, h8, h9⟩ := Cond.laysStatic_spec hl
  exact ⟨c, k, i, f, a, cell, h1, h2, h3, h4, h5, h6, h7, h8, h9, hA a (Array.getElem?_eq_some_iff.mp h5).1⟩
theorem vx_isRef {C n d : String} {v : Value} {A : Nat → Prop} {s : State} {args : Array Value} (h : va_Z C n d v A s s.heap) (hv : v.isRef = true) : (Cond.isRef (.static C n d)).before args s = true := by
  obtain ⟨cf, kf, fi, f, a, cell, h1, h2, h3, h4, h5, h6, h7, -⟩ := h
  have he : (Term.static C n d).eval args s none [] s = some v := by
    simp [Term.eval, State.fieldNamed?, h1, h2, h4, h5, h6, h7]
  simp only [Cond.before, Cond.holds, Cond.value, he]
  cases v <;> simp_all [Value.isRef]
theorem vx_isRefq {C n d : String} {A : Nat → Prop} {s : State} {args : Array Value} (h : va_Zq C n d A s s.heap) : (Cond.isRef (.static C n d)).before args s = true := by
  rcases h with h | ⟨t, h⟩
  · exact vx_isRef h rfl
  · exact vx_isRef h rfl
/-- the same frame, seen from here: as if the method were called anew in this heap -/
theorem vx_rebase {T : State} (X : Stand p l e R s m args below meth c T locs cells slots) {R' : Room} (hf : R'.frames ≤ R.frames) (hl : R'.locals ≤ R.locals) (hc : cells + R'.cells ≤ R.cells) (hs : slots + R'.slots ≤ R.slots) :
    Stand p l e R' ((T.setVm s.vm).setFrames (.invoking m args :: below)) m args below meth c T [] 0 0 := by
  have htop : (T.setVm s.vm).topJava?.isSome := X.here.top
  have hF : ((T.setVm s.vm).setFrames (.invoking m args :: below)).frames = .invoking m args :: below := State.frames_setFrames _ (State.cur_lt_of_top htop)
  obtain ⟨g₀, hg0⟩ := Option.isSome_iff_exists.mp htop
  obtain ⟨r, hr⟩ := State.topJava?_eq_some.mp hg0
  have hl9 : e.platform.stackLimits (T.setVm s.vm).me = e.platform.stackLimits s.me := X.limits
  have hb9 : (T.setVm s.vm).me.stackBytes = s.me.stackBytes := X.bytes
  refine ⟨X.admits, X.cas, X.clock, hF, ?_, X.hears, X.method, X.code, X.here, X.tail, X.warmed, ?_, ?_, ?_⟩
  · have h := X.room
    have hU : ((T.setVm s.vm).setFrames (.invoking m args :: below)).localsInUse = s.localsInUse := by
      rw [State.localsInUse_invoking hF (meth := meth) (c := c) X.method X.code, State.localsInUse_invoking X.frames X.method X.code]
    simp only [State.hasRoom, Bool.and_eq_true, decide_eq_true_eq] at h ⊢
    obtain ⟨⟨⟨⟨h1, h2, h3, h4, h5, h6⟩, h7⟩, h8⟩, h9⟩ := h
    rw [X.frames, List.length_cons] at h2 h3
    have q1 := X.heapSize
    have q2 := X.used
    simp only [hF, hU, List.length_cons, State.stackLimits_setFrames, State.stackBytes_setFrames, hl9, hb9]
    refine ⟨⟨⟨⟨by omega, by omega, by omega, by omega, by omega, h6⟩, ?_⟩, ?_⟩, X.book⟩
    · show T.heap.size + R'.cells ≤ e.platform.maxCells
      omega
    · show T.slotsUsed + R'.slots ≤ e.platform.maxSlots
      omega
  · rw [State.stackLimits_setFrames]; rfl
  · rw [State.stackBytes_setFrames]; rfl
  · refine ⟨?_, Nat.le_refl _, Nat.le_refl _, ?_, ?_, fun a c9 h9 => ⟨c9, h9, rfl, rfl, fun _ _ => rfl⟩⟩
    · obtain ⟨t, ht, -⟩ := State.frames_cons hr
      show T.setVm s.vm = { ((T.setVm s.vm).setFrames (.invoking m args :: below)).setFrames (T.setVm s.vm).frames with heap := T.heap, slotsUsed := T.slotsUsed }
      rw [State.setFrames_setFrames, State.setFrames_self ht]
      rfl
    · show T.slotsUsed = T.slotsUsed + ((T.heap.toList.drop T.heap.size).map (·.slots.size)).sum
      rw [List.drop_eq_nil_of_le (Nat.le_of_eq Array.length_toList)]
      rfl
    · show ((T.heap.toList.drop T.heap.size).map (·.slots.size)).sum ≤ 0
      rw [List.drop_eq_nil_of_le (Nat.le_of_eq Array.length_toList)]
      exact Nat.le_refl _
/-- 'throw new E()': new; dup; invokespecial; athrow -/
theorem vx_throw0 {cc : ByteArray} {pc : Nat} (hexec : p.tables.exec = Jvm.exec) (hb : c.code = cc) (hl : l.stackTraces = false) {own cls : String} {names : List String} {ik ic mc ms : Nat} {A : Nat → Prop}
    (hown : s.vm.findClass own = some m.cls) (hcls : Bundle.fit cls = true) (hnames : ∀ n ∈ names, Bundle.fit n = true)
    (hk : (Cond.classLink own ik cls).before args s = true) (hini : (Cond.initialized cls).before args s = true) (hat : ∀ w ∈ vx_at0 own ic cls names, w.before args s = true)
    (hgood : ∀ w ∈ Cond.classLink own ik cls :: Cond.initialized cls :: vx_at0 own ic cls names, vx_ot w = true)
    (hU : vx_Zq Bundle.tN "UNASSIGNED_STACK" Bundle.steD A s s.heap) (hN : vx_Zq Bundle.tN "SUPPRESSED_SENTINEL" Bundle.listD A s s.heap) (hS : va_S A s.heap H locs) (hsize : ls.size = c.maxLocals)
    (d0 : decode cc pc = .ok (.new ik, 3)) (d3 : decode cc (pc + 3) = .ok (.dup, 1)) (d4 : decode cc (pc + 4) = .ok (.invokespecial ic, 3)) (d7 : decode cc (pc + 7) = .ok (.athrow, 1))
    (hout : ∀ x ∈ c.exceptionTable.toList, covers x (pc + 7) = false)
    (hRframes : names.length + 3 < R.frames) (hRlocals : (rest.map fun v => v.category).sum + (13 * (names.length + 1) + 42) ≤ R.locals) (hRcells : cells + 1 ≤ R.cells) (hRslots : slots + 6 ≤ R.slots) (hlocks : meth.locks = false)
    (hx : ∀ t : State, s.vm.Alike t.vm → H.size ≤ t.heap.size → (∀ q : Nat, q < H.size → t.heap[q]? = H[q]?) → XC cls s t)
    (hf : ∀ z ∈ locs, free z.base) (hc : cells + 1 ≤ mc) (hs : slots + 6 ≤ ms) :
    W p l e R s m args below meth c H locs cells slots (vx_MQ below Qc XC args s mc ms free) (F0 m pc ls rest) := by
  intro T hT X
  have htr : e.platform.stackTraces = false := (show e.platform.stackTraces = l.stackTraces by rw [X.admits.platform]).trans hl
  have Y := vx_rebase X (R' := { frames := R.frames, locals := R.locals, cells := 1, slots := 6 }) (Nat.le_refl _) (Nat.le_refl _) hRcells hRslots
  obtain ⟨s', hA⟩ : ∃ z, z = (T.setVm s.vm).setFrames (.invoking m args :: below) := ⟨_, rfl⟩
  rw [← hA] at Y
  have hvm : s'.vm = s.vm := by rw [hA]; rfl
  have hhp : s'.heap = H := by rw [hA]; exact hT
  have hW0 : s.WarmedH s'.vm := by rw [hvm]; exact State.WarmedH.refl s
  have hat' : ∀ w ∈ vx_at0 own ic cls names, w.before args s' = true := fun w hw => vx_ot_at hW0 hvm.symm (hgood w (List.mem_cons_of_mem _ (List.mem_cons_of_mem _ hw))) (hat w hw)
  have hk' : (Cond.classLink own ik cls).before args s' = true := vx_ot_at hW0 hvm.symm (hgood _ List.mem_cons_self) hk
  have hini' : (Cond.initialized cls).before args s' = true := vx_ot_at hW0 hvm.symm (hgood _ (List.mem_cons_of_mem _ List.mem_cons_self)) hini
  have hU' : vx_Zq Bundle.tN "UNASSIGNED_STACK" Bundle.steD A s' s'.heap := by rw [hhp]; exact vx_Zq.moved hW0.alike (hU.kept hS.2.1)
  have hN' : vx_Zq Bundle.tN "SUPPRESSED_SENTINEL" Bundle.listD A s' s'.heap := by rw [hhp]; exact vx_Zq.moved hW0.alike (hN.kept hS.2.1)
  have h : ∀ w ∈ Bundle.ownAtoms0 own ic cls names, w.before args s' = true := vx_own hat' (vx_isRefq hU'.1) (vx_isRefq hN'.1) hU'.2.word hN'.2.word
  have hown' : s'.vm.findClass own = some m.cls := by rw [hvm]; exact hown
  have hins : (Cond.instantiable cls 6).before args s' = true := h _ (by simp [Bundle.ownAtoms0])
  obtain ⟨vm₁, cX, kX, hfX, hkX, -, -, X₁, st1⟩ := Y.newCold hexec (own := own) (C := cls) (index := ik) (n := 6) hown' hk' hins hini'
    (g := F0 m pc ls rest) rfl (by rw [hb]; exact d0) (Nat.le_refl _) (Nat.le_refl _)
  generalize hT1 : (T.setVm vm₁).pushCell { cls := cX, slots := kX.instanceTypes.map defaultValue, vm := .none } = T1 at X₁ st1
  have hcat : (Value.ref T.heap.size).category = 1 := rfl
  have hcellA : T1.heap[T.heap.size]? = some (freshCell cX kX) := by rw [← hT1]; exact State.heap_pushCell_size _ _
  have d3' : decode c.code (pc + 3) = .ok (.dup, 1) := by rw [hb]; exact d3
  obtain ⟨U, hsteps, hrun, hend, hW, hsame, ce, hce, hO⟩ := X₁.ctorThrow0 hexec htr (own := own) (cls := cls) (names := names) (ic := ic) hown' hcls hnames h (fun x hx => nomatch hx) hfX hkX hcellA (by rw [hhp, hT]; exact Nat.le_refl _)
    (g := { method := m, pc := pc + 4, locals := ls, stack := .ref T.heap.size :: .ref T.heap.size :: rest, locked := none }) rfl hsize rfl rfl (rest := rest) rfl
    (by rw [hb]; exact d4) (by rw [hb]; exact d7) hout hRframes (by simp only [List.map_cons, List.sum_cons, hcat]; omega) hlocks
  obtain ⟨f1, f2⟩ := vx_frame hsame
  rw [hhp] at f1 f2
  have hWs : s.WarmedH U.vm := State.WarmedH.trans hW0 hW
  have hcl : s.vm.findClass cls = some ce.cls := by
    have h9 := hO.cls
    rw [hvm] at h9
    exact h9
  have hall : s.sameButNew ({ U with vm := s.vm } : State) locs mc ms := by
    subst hA
    obtain ⟨e1, e2⟩ := hsame
    rw [State.setFrames_setFrames] at e1
    have h2 : (T.setVm s.vm).sameButNew ({ U with vm := s.vm } : State) [] (0 + 1) (0 + 6) := ⟨e1, e2⟩
    have h3 := X.same.trans h2
    rw [List.append_nil] at h3
    exact h3.mono hc hs
  refine ⟨U, ?_, .threw T.heap.size, hrun, hend, Or.inr ⟨T.heap.size, rfl, cls, ce, locs, hx U hWs.alike f1 (fun q hq => f2 q hq (fun z hz => nomatch hz)), hce, hO.vm, hcl, hWs, hall, hf⟩⟩
  refine st1 _ ?_
  show Steps p.tables e below (T1.setTop { method := m, pc := pc + 3, locals := ls, stack := .ref T.heap.size :: rest, locked := none }) _
  jvm_step X₁.here [X₁.here.top, hexec, d3', Value.category]
  exact hsteps
/-- 'throw new E("text")': new; dup; ldc; invokespecial; athrow -/
theorem vx_throwS {cc : ByteArray} {pc : Nat} (hexec : p.tables.exec = Jvm.exec) (hb : c.code = cc) (hl : l.stackTraces = false) {own cls text : String} {names : List String} {ik is ic mc ms sa : Nat} {A : Nat → Prop}
    (hown : s.vm.findClass own = some m.cls) (hcls : Bundle.fit cls = true) (hnames : ∀ n ∈ names, Bundle.fit n = true)
    (hk : (Cond.classLink own ik cls).before args s = true) (hini : (Cond.initialized cls).before args s = true) (hstr : vk_R own is text sa s) (hat : ∀ w ∈ vx_atS own ic cls names, w.before args s = true)
    (hgood : ∀ w ∈ Cond.classLink own ik cls :: Cond.initialized cls :: vx_atS own ic cls names, vx_ot w = true)
    (hU : vx_Zq Bundle.tN "UNASSIGNED_STACK" Bundle.steD A s s.heap) (hN : vx_Zq Bundle.tN "SUPPRESSED_SENTINEL" Bundle.listD A s s.heap) (hS : va_S A s.heap H locs) (hsize : ls.size = c.maxLocals)
    (d0 : decode cc pc = .ok (.new ik, 3)) (d3 : decode cc (pc + 3) = .ok (.dup, 1)) (d4 : decode cc (pc + 4) = .ok (.ldc is, 2)) (d6 : decode cc (pc + 6) = .ok (.invokespecial ic, 3)) (d9 : decode cc (pc + 9) = .ok (.athrow, 1))
    (hout : ∀ x ∈ c.exceptionTable.toList, covers x (pc + 9) = false)
    (hRframes : names.length + 3 < R.frames) (hRlocals : (rest.map fun v => v.category).sum + (13 * (names.length + 1) + 43) ≤ R.locals) (hRcells : cells + 1 ≤ R.cells) (hRslots : slots + 6 ≤ R.slots) (hlocks : meth.locks = false)
    (hx : ∀ t : State, s.vm.Alike t.vm → H.size ≤ t.heap.size → (∀ q : Nat, q < H.size → t.heap[q]? = H[q]?) → XC cls s t)
    (hf : ∀ z ∈ locs, free z.base) (hc : cells + 1 ≤ mc) (hs : slots + 6 ≤ ms) :
    W p l e R s m args below meth c H locs cells slots (vx_MQ below Qc XC args s mc ms free) (F0 m pc ls rest) := by
  intro T hT X
  have htr : e.platform.stackTraces = false := (show e.platform.stackTraces = l.stackTraces by rw [X.admits.platform]).trans hl
  have Y := vx_rebase X (R' := { frames := R.frames, locals := R.locals, cells := 1, slots := 6 }) (Nat.le_refl _) (Nat.le_refl _) hRcells hRslots
  obtain ⟨s', hA⟩ : ∃ z, z = (T.setVm s.vm).setFrames (.invoking m args :: below) := ⟨_, rfl⟩
  rw [← hA] at Y
  have hvm : s'.vm = s.vm := by rw [hA]; rfl
  have hhp : s'.heap = H := by rw [hA]; exact hT
  have hW0 : s.WarmedH s'.vm := by rw [hvm]; exact State.WarmedH.refl s
  have hat' : ∀ w ∈ vx_atS own ic cls names, w.before args s' = true := fun w hw => vx_ot_at hW0 hvm.symm (hgood w (List.mem_cons_of_mem _ (List.mem_cons_of_mem _ hw))) (hat w hw)
  have hk' : (Cond.classLink own ik cls).before args s' = true := vx_ot_at hW0 hvm.symm (hgood _ List.mem_cons_self) hk
  have hini' : (Cond.initialized cls).before args s' = true := vx_ot_at hW0 hvm.symm (hgood _ (List.mem_cons_of_mem _ List.mem_cons_self)) hini
  have hU' : vx_Zq Bundle.tN "UNASSIGNED_STACK" Bundle.steD A s' s'.heap := by rw [hhp]; exact vx_Zq.moved hW0.alike (hU.kept hS.2.1)
  have hN' : vx_Zq Bundle.tN "SUPPRESSED_SENTINEL" Bundle.listD A s' s'.heap := by rw [hhp]; exact vx_Zq.moved hW0.alike (hN.kept hS.2.1)
  have h : ∀ w ∈ Bundle.ownAtoms own ic cls names, w.before args s' = true := vx_own hat' (vx_isRefq hU'.1) (vx_isRefq hN'.1) hU'.2.word hN'.2.word
  have hown' : s'.vm.findClass own = some m.cls := by rw [hvm]; exact hown
  have hins : (Cond.instantiable cls 6).before args s' = true := h _ (by simp [Bundle.ownAtoms])
  obtain ⟨vm₁, cX, kX, hfX, hkX, -, -, X₁, st1⟩ := Y.newCold hexec (own := own) (C := cls) (index := ik) (n := 6) hown' hk' hins hini'
    (g := F0 m pc ls rest) rfl (by rw [hb]; exact d0) (Nat.le_refl _) (Nat.le_refl _)
  generalize hT1 : (T.setVm vm₁).pushCell { cls := cX, slots := kX.instanceTypes.map defaultValue, vm := .none } = T1 at X₁ st1
  have hcat : (Value.ref T.heap.size).category = 1 := rfl
  have hcellA : T1.heap[T.heap.size]? = some (freshCell cX kX) := by rw [← hT1]; exact State.heap_pushCell_size _ _
  have d3' : decode c.code (pc + 3) = .ok (.dup, 1) := by rw [hb]; exact d3
  have d4' : decode c.code (pc + 4) = .ok (.ldc is, 2) := by rw [hb]; exact d4
  have hstr' : vk_R own is text sa s' := vk_R.warm hW0 hstr
  obtain ⟨U, hsteps, hrun, hend, hW, hsame, ce, hce, hO⟩ := X₁.ctorThrowS hexec htr (own := own) (cls := cls) (names := names) (ic := ic) hown' hcls hnames h (fun x hx => nomatch hx) hfX hkX hcellA (by rw [hhp, hT]; exact Nat.le_refl _) (msg := .ref sa) rfl
    (g := { method := m, pc := pc + 6, locals := ls, stack := .ref sa :: .ref T.heap.size :: .ref T.heap.size :: rest, locked := none }) rfl hsize rfl rfl (rest := rest) rfl
    (by rw [hb]; exact d6) (by rw [hb]; exact d9) hout hRframes (by simp only [List.map_cons, List.sum_cons, hcat]; omega) hlocks
  obtain ⟨f1, f2⟩ := vx_frame hsame
  rw [hhp] at f1 f2
  have hWs : s.WarmedH U.vm := State.WarmedH.trans hW0 hW
  have hcl : s.vm.findClass cls = some ce.cls := by
    have h9 := hO.cls
    rw [hvm] at h9
    exact h9
  have hall : s.sameButNew ({ U with vm := s.vm } : State) locs mc ms := by
    subst hA
    obtain ⟨e1, e2⟩ := hsame
    rw [State.setFrames_setFrames] at e1
    have h2 : (T.setVm s.vm).sameButNew ({ U with vm := s.vm } : State) [] (0 + 1) (0 + 6) := ⟨e1, e2⟩
    have h3 := X.same.trans h2
    rw [List.append_nil] at h3
    exact h3.mono hc hs
  refine ⟨U, ?_, .threw T.heap.size, hrun, hend, Or.inr ⟨T.heap.size, rfl, cls, ce, locs, hx U hWs.alike f1 (fun q hq => f2 q hq (fun z hz => nomatch hz)), hce, hO.vm, hcl, hWs, hall, hf⟩⟩
  refine st1 _ ?_
  show Steps p.tables e below (T1.setTop { method := m, pc := pc + 3, locals := ls, stack := .ref T.heap.size :: rest, locked := none }) _
  jvm_step X₁.here [X₁.here.top, hexec, d3', Value.category]
  exact X₁.ldcString hexec (own := own) (text := text) (index := is) (a := sa) hown' hstr'.1 hstr'.2
    (g := { method := m, pc := pc + 4, locals := ls, stack := .ref T.heap.size :: .ref T.heap.size :: rest, locked := none }) rfl d4' _ hsteps
/-- 'throw new E("text")', the text by a wide index -/
theorem vx_throwSW {cc : ByteArray} {pc : Nat} (hexec : p.tables.exec = Jvm.exec) (hb : c.code = cc) (hl : l.stackTraces = false) {own cls text : String} {names : List String} {ik is ic mc ms sa : Nat} {A : Nat → Prop}
    (hown : s.vm.findClass own = some m.cls) (hcls : Bundle.fit cls = true) (hnames : ∀ n ∈ names, Bundle.fit n = true)
    (hk : (Cond.classLink own ik cls).before args s = true) (hini : (Cond.initialized cls).before args s = true) (hstr : vk_R own is text sa s) (hat : ∀ w ∈ vx_atS own ic cls names, w.before args s = true)
    (hgood : ∀ w ∈ Cond.classLink own ik cls :: Cond.initialized cls :: vx_atS own ic cls names, vx_ot w = true)
    (hU : vx_Zq Bundle.tN "UNASSIGNED_STACK" Bundle.steD A s s.heap) (hN : vx_Zq Bundle.tN "SUPPRESSED_SENTINEL" Bundle.listD A s s.heap) (hS : va_S A s.heap H locs) (hsize : ls.size = c.maxLocals)
    (d0 : decode cc pc = .ok (.new ik, 3)) (d3 : decode cc (pc + 3) = .ok (.dup, 1)) (d4 : decode cc (pc + 4) = .ok (.ldc_w is, 3)) (d7 : decode cc (pc + 7) = .ok (.invokespecial ic, 3)) (d10 : decode cc (pc + 10) = .ok (.athrow, 1))
    (hout : ∀ x ∈ c.exceptionTable.toList, covers x (pc + 10) = false)
    (hRframes : names.length + 3 < R.frames) (hRlocals : (rest.map fun v => v.category).sum + (13 * (names.length + 1) + 43) ≤ R.locals) (hRcells : cells + 1 ≤ R.cells) (hRslots : slots + 6 ≤ R.slots) (hlocks : meth.locks = false)
    (hx : ∀ t : State, s.vm.Alike t.vm → H.size ≤ t.heap.size → (∀ q : Nat, q < H.size → t.heap[q]? = H[q]?) → XC cls s t)
    (hf : ∀ z ∈ locs, free z.base) (hc : cells + 1 ≤ mc) (hs : slots + 6 ≤ ms) :
    W p l e R s m args below meth c H locs cells slots (vx_MQ below Qc XC args s mc ms free) (F0 m pc ls rest) := by
  intro T hT X
  have htr : e.platform.stackTraces = false := (show e.platform.stackTraces = l.stackTraces by rw [X.admits.platform]).trans hl
  have Y := vx_rebase X (R' := { frames := R.frames, locals := R.locals, cells := 1, slots := 6 }) (Nat.le_refl _) (Nat.le_refl _) hRcells hRslots
  obtain ⟨s', hA⟩ : ∃ z, z = (T.setVm s.vm).setFrames (.invoking m args :: below) := ⟨_, rfl⟩
  rw [← hA] at Y
  have hvm : s'.vm = s.vm := by rw [hA]; rfl
  have hhp : s'.heap = H := by rw [hA]; exact hT
  have hW0 : s.WarmedH s'.vm := by rw [hvm]; exact State.WarmedH.refl s
  have hat' : ∀ w ∈ vx_atS own ic cls names, w.before args s' = true := fun w hw => vx_ot_at hW0 hvm.symm (hgood w (List.mem_cons_of_mem _ (List.mem_cons_of_mem _ hw))) (hat w hw)
  have hk' : (Cond.classLink own ik cls).before args s' = true := vx_ot_at hW0 hvm.symm (hgood _ List.mem_cons_self) hk
  have hini' : (Cond.initialized cls).before args s' = true := vx_ot_at hW0 hvm.symm (hgood _ (List.mem_cons_of_mem _ List.mem_cons_self)) hini
  have hU' : vx_Zq Bundle.tN "UNASSIGNED_STACK" Bundle.steD A s' s'.heap := by rw [hhp]; exact vx_Zq.moved hW0.alike (hU.kept hS.2.1)
  have hN' : vx_Zq Bundle.tN "SUPPRESSED_SENTINEL" Bundle.listD A s' s'.heap := by rw [hhp]; exact vx_Zq.moved hW0.alike (hN.kept hS.2.1)
  have h : ∀ w ∈ Bundle.ownAtoms own ic cls names, w.before args s' = true := vx_own hat' (vx_isRefq hU'.1) (vx_isRefq hN'.1) hU'.2.word hN'.2.word
  have hown' : s'.vm.findClass own = some m.cls := by rw [hvm]; exact hown
  have hins : (Cond.instantiable cls 6).before args s' = true := h _ (by simp [Bundle.ownAtoms])
  obtain ⟨vm₁, cX, kX, hfX, hkX, -, -, X₁, st1⟩ := Y.newCold hexec (own := own) (C := cls) (index := ik) (n := 6) hown' hk' hins hini'
    (g := F0 m pc ls rest) rfl (by rw [hb]; exact d0) (Nat.le_refl _) (Nat.le_refl _)
  generalize hT1 : (T.setVm vm₁).pushCell { cls := cX, slots := kX.instanceTypes.map defaultValue, vm := .none } = T1 at X₁ st1
  have hcat : (Value.ref T.heap.size).category = 1 := rfl
  have hcellA : T1.heap[T.heap.size]? = some (freshCell cX kX) := by rw [← hT1]; exact State.heap_pushCell_size _ _
  have d3' : decode c.code (pc + 3) = .ok (.dup, 1) := by rw [hb]; exact d3
  have d4' : decode c.code (pc + 4) = .ok (.ldc_w is, 3) := by rw [hb]; exact d4
  have hstr' : vk_R own is text sa s' := vk_R.warm hW0 hstr
  obtain ⟨U, hsteps, hrun, hend, hW, hsame, ce, hce, hO⟩ := X₁.ctorThrowS hexec htr (own := own) (cls := cls) (names := names) (ic := ic) hown' hcls hnames h (fun x hx => nomatch hx) hfX hkX hcellA (by rw [hhp, hT]; exact Nat.le_refl _) (msg := .ref sa) rfl
    (g := { method := m, pc := pc + 7, locals := ls, stack := .ref sa :: .ref T.heap.size :: .ref T.heap.size :: rest, locked := none }) rfl hsize rfl rfl (rest := rest) rfl
    (by rw [hb]; exact d7) (by rw [hb]; exact d10) hout hRframes (by simp only [List.map_cons, List.sum_cons, hcat]; omega) hlocks
  obtain ⟨f1, f2⟩ := vx_frame hsame
  rw [hhp] at f1 f2
  have hWs : s.WarmedH U.vm := State.WarmedH.trans hW0 hW
  have hcl : s.vm.findClass cls = some ce.cls := by
    have h9 := hO.cls
    rw [hvm] at h9
    exact h9
  have hall : s.sameButNew ({ U with vm := s.vm } : State) locs mc ms := by
    subst hA
    obtain ⟨e1, e2⟩ := hsame
    rw [State.setFrames_setFrames] at e1
    have h2 : (T.setVm s.vm).sameButNew ({ U with vm := s.vm } : State) [] (0 + 1) (0 + 6) := ⟨e1, e2⟩
    have h3 := X.same.trans h2
    rw [List.append_nil] at h3
    exact h3.mono hc hs
  refine ⟨U, ?_, .threw T.heap.size, hrun, hend, Or.inr ⟨T.heap.size, rfl, cls, ce, locs, hx U hWs.alike f1 (fun q hq => f2 q hq (fun z hz => nomatch hz)), hce, hO.vm, hcl, hWs, hall, hf⟩⟩
  refine st1 _ ?_
  show Steps p.tables e below (T1.setTop { method := m, pc := pc + 3, locals := ls, stack := .ref T.heap.size :: rest, locked := none }) _
  jvm_step X₁.here [X₁.here.top, hexec, d3', Value.category]
  exact X₁.ldcStringW hexec (own := own) (text := text) (index := is) (a := sa) hown' hstr'.1 hstr'.2
    (g := { method := m, pc := pc + 4, locals := ls, stack := .ref T.heap.size :: .ref T.heap.size :: rest, locked := none }) rfl d4' _ hsteps
end Ends
section Bodies
variable {l : Launch}
theorem vx_ofW {y : MethodName} {ws ws' : List Cond} {rm : Room} {Pc : Array Value → State → Prop} {Qc : Array Value → State → Outcome → State → Prop} {XC : String → State → State → Prop} {mc ms : Nat} {free : Addr → Prop} {cc : ByteArray} {maxL : Nat} {ret : Option FieldType}
    (hy : plainName y.cls = true) (hw : ws = Cond.code y cc maxL ret :: ws')
    (body : ∀ p e s m args below meth c s₁, BodyLoose p l y (headSpec ws rm) cc maxL ret e s m args below meth c s₁ → c.maxLocals = maxL → (∀ x ∈ c.exceptionTable.toList, False) → Pc args s →
      W p l e (headSpec ws rm).room s m args below meth c s.heap [] 0 0 (vx_MQ below Qc XC args s mc ms free) (entryFrame m args maxL)) : vx_Met l y ws rm Pc Qc XC mc ms free := by
  refine MetFree.of_bodyS (code := cc) (maxLocals := maxL) (ret := ret) hy ?_ ?_
  · intro args s m h hn
    obtain ⟨meth, c, h1, h2, h3, h4, h5, h6, -, -⟩ := Cond.code_spec hn (atoms_spec (ws := ws) h _ (by rw [hw]; exact List.mem_cons_self))
    exact ⟨meth, c, h1, h2, h3, h4, h5, h6⟩
  · intro p e s m args below meth c s₁ B hml hP _
    have hh0 : s₁.heap = s.heap := by rw [B.state]; rfl
    have ht : ∀ x ∈ c.exceptionTable.toList, False := by
      obtain ⟨meth9, c9, h1, h2, -, -, -, -, h7, -⟩ := Cond.code_spec B.named (atoms_spec (ws := ws) B.pre _ (by rw [hw]; exact List.mem_cons_self))
      cases Option.some.inj (h1.symm.trans B.method)
      cases Option.some.inj (h2.symm.trans (Stand.of_body B).code)
      intro x hx
      rw [Array.isEmpty_iff.mp h7] at hx
      cases hx
    obtain ⟨t, a1, o, b1, b2, b3⟩ := body p e s m args below meth c s₁ B hml ht hP s₁ hh0 (Stand.of_body B)
    exact ⟨t, o, a1, b1, b2, b3⟩
/-- the table of a body with handlers -/
theorem vx_table {p : Program} {x y : MethodName} {S : Spec} {cc bytes : ByteArray} {maxL maxL' : Nat} {ret ret' : Option FieldType} {e : Env} {s s₁ : State} {m : MethodId} {args : Array Value} {below : List Frame} {meth : Method} {c : Code} {hh : List (Nat × Nat × Nat × Nat)}
    (B : BodyLoose p l y S cc maxL ret e s m args below meth c s₁) (h : (Cond.codeWith y bytes maxL' ret' hh).before args s = true) : c.exceptionTable.toList = tableOf hh := by
  obtain ⟨m9, meth9, c9, hn9, h1, h2, -, -, h6, -⟩ := Cond.codeWith_spec h
  cases Option.some.inj (hn9.symm.trans B.named)
  cases Option.some.inj (h1.symm.trans B.method)
  cases Option.some.inj (h2.symm.trans (Stand.of_body B).code)
  rw [← h6, table_eq]
end Bodies
end VXA
/-! ===== END ===== -/
/-! ===== BEGIN a static call of a method with an exception table ===== -/
section VXS
variable {p : Program} {l : Launch} {e : Env} {R : Room} {s : State} {m : MethodId} {args : Array Value} {below : List Frame} {meth : Method} {c : Code} {T : State} {H : Heap} {locs : List Loc} {cells slots : Nat}
abbrev vx_CSW (R : Room) (s : State) (args : Array Value) (own : String) (index : Nat) (y : MethodName) (bytes : ByteArray) (maxL : Nat) (ret : Option FieldType) (hh : List (Nat × Nat × Nat × Nat)) (ws : List Cond) (rm : Room) (mc ms n : Nat) : Prop :=
  (rm.cells = mc ∧ rm.slots = ms ∧ rm.frames + 1 ≤ R.frames ∧ 8 + (maxL + 11) + rm.locals ≤ R.locals ∧ (∀ w ∈ ws, ∀ (a' : Array Value) (U : State), s.WarmedH U.vm → w.before a' U = true) ∧ Cond.codeWith y bytes maxL ret hh ∈ ws) ∧
  (Cond.codeWith y bytes maxL ret hh).before args s = true ∧ (Cond.initialized y.cls).before args s = true ∧ (y.cls ≠ "java/lang/invoke/MethodHandle" ∧ y.cls ≠ "java/lang/invoke/VarHandle") ∧
  (∀ sig, parseMethodDescriptor y.desc = some sig → n = sig.parameters.length) ∧ (Cond.methodLink own index y).before args s = true ∧ (Cond.static y).before args s = true
theorem vx_cwSW {own : String} {index maxL mc ms : Nat} {y : MethodName} {bytes : ByteArray} {ret : Option FieldType} {hh : List (Nat × Nat × Nat × Nat)} {Ts ws ws' : List Cond} {rm : Room} (n : Nat) (ht : ∀ w ∈ Ts, w.before args s = true) (hT : GoodIn Ts (va_wsS own index y ws)) (hw : ws = Cond.codeWith y bytes maxL ret hh :: ws') (hrc : rm.cells = mc) (hrs : rm.slots = ms)
    (hd : y.cls ≠ "java/lang/invoke/MethodHandle" ∧ y.cls ≠ "java/lang/invoke/VarHandle" ∧ (parseMethodDescriptor y.desc).map (fun d => d.parameters.length) = some n) (hR : rm.frames + 1 ≤ R.frames ∧ 8 + (maxL + 11) + rm.locals ≤ R.locals) :
    vx_CSW R s args own index y bytes maxL ret hh ws rm mc ms n := by
  have ok : ∀ w ∈ va_wsS own index y ws, w.before args s = true := fun w h => ht w (hT w h).1
  have hG : GoodIn Ts ws := fun w h => hT w (by unfold va_wsS; exact List.mem_append_right _ h)
  have hc : Cond.codeWith y bytes maxL ret hh ∈ ws := by rw [hw]; exact List.mem_cons_self
  refine ⟨⟨hrc, hrs, hR.1, hR.2, pay_in ht hG, hc⟩, ht _ (hG _ hc).1, ok _ (by simp [va_wsS]), ⟨hd.1, hd.2.1⟩, fun sig h => ?_, ok _ (by simp [va_wsS]), ok _ (by simp [va_wsS])⟩
  have h2 := hd.2.2
  rw [h] at h2
  exact (Option.some.inj h2).symm
theorem vx_callSW (X : Stand p l e R s m args below meth c T locs cells slots) (hexec : p.tables.exec = Jvm.exec) {own : String} {index : Nat} {y : MethodName} {bytes : ByteArray} {maxL : Nat} {ret : Option FieldType} {hh : List (Nat × Nat × Nat × Nat)}
    (hown : s.vm.findClass own = some m.cls) (hlink : (Cond.methodLink own index y).before args s = true) (hstat : (Cond.static y).before args s = true) (hinit : (Cond.initialized y.cls).before args s = true)
    (hcode : (Cond.codeWith y bytes maxL ret hh).before args s = true) (hy : y.cls ≠ "java/lang/invoke/MethodHandle" ∧ y.cls ≠ "java/lang/invoke/VarHandle")
    {W9 : Nat} {Pre : Pt → Array Value → Prop} {Post : Pt → Array Value → Option Value → Pt → Prop} (hK : Back l R p e below s args y 3 W9 Pre Post)
    {g : JFrame} (hg : g.method = m) (hsize : g.locals.size = c.maxLocals) {argsL rest : List Value} (hlen : ∀ sig, parseMethodDescriptor y.desc = some sig → argsL.length = sig.parameters.length)
    (hstack : g.stack = argsL.reverse ++ rest) (hW : 2 * g.monitorRoom + (rest.map fun v => v.category).sum ≤ W9) (hdg : decode c.code g.pc = .ok (.invokestatic index, 3))
    (hpre : ∀ vm₁, s.WarmedH vm₁ → Pre ⟨T.setVm vm₁, locs, cells, slots⟩ argsL.toArray) :
    ∃ (v : Option Value) (vm₁ : Vm) (B : Pt), s.WarmedH vm₁ ∧ Stand p l e R s m args below meth c B.U B.locs B.cells B.slots ∧ Post ⟨T.setVm vm₁, locs, cells, slots⟩ argsL.toArray v B ∧
      ∀ target, Steps p.tables e below (B.U.setTop { g with pc := g.pc + 3, stack := v.toList ++ rest }) target → Steps p.tables e below (T.setTop g) target := by
  obtain ⟨mk, methM, cM, hnamed, hmethM, -, -, -, -, -, -, hsigM⟩ := Cond.codeWith_spec hcode
  have hstatic : methM.isStatic = true := Cond.static_spec hnamed hmethM hstat
  obtain ⟨kP, hkP, -⟩ := className_of_methodNamed hnamed
  have hinitP : kP.init = .initialized := Cond.initialized_spec (findClass_of_methodNamed hnamed) hkP hinit
  obtain ⟨vm₁, X₁, hstep₁⟩ := X.invokestatic hexec hown hlink hnamed hmethM hstatic hkP hinitP hy (g := g) hg (argsL := argsL) (rest := rest) (hlen _ hsigM) hstack hdg
  obtain ⟨v, B, X', hpost, hsteps⟩ := hK m meth c ⟨T.setVm vm₁, locs, cells, slots⟩ { g with stack := rest } (.invokestatic index) mk argsL.toArray X₁ hg hsize hdg hW (X₁.named hnamed) (hpre vm₁ X₁.warmed)
  exact ⟨v, vm₁, B, X₁.warmed, X', hpost, fun target h => hstep₁ _ fun acts => by rw [doInvoke_state]; exact hsteps.trans h⟩
theorem vx_runSW {y : MethodName} {bytes cc : ByteArray} {maxL nL mc ms n index : Nat} {ret : Option FieldType} {hh : List (Nat × Nat × Nat × Nat)} {ws : List Cond} {rm : Room} {Pc : Array Value → State → Prop} {Qc : Array Value → State → Outcome → State → Prop} {free : Addr → Prop} {Ts : List Cond} {own : String} {As rest : List Value} {g : JFrame}
    (S : CallFix p m c cc nL s args Ts own) (hM : Met l y ws rm Pc Qc mc ms free) (cw : vx_CSW R s args own index y bytes maxL ret hh ws rm mc ms n) (hp : PreS s H Pc As)
    (hg : g.method = m) (hn : As.length = n) (hsize : g.locals.size = nL) (hstack : g.stack = As.reverse ++ rest) (hW : 2 * g.monitorRoom + (rest.map fun v => v.category).sum ≤ 8) (hdg : decode cc g.pc = .ok (.invokestatic index, 3)) (hf : cells + mc ≤ R.cells ∧ slots + ms ≤ R.slots) :
    va_Run p l e R s m args below meth c H locs cells slots mc ms g rest (Qc As.toArray) (free) := by
  obtain ⟨⟨hrc, hrs, hfr, hlo, hws, hcw⟩, hcode, hini, hy, hlen, hl, hstt⟩ := cw
  have hK : Back l R p e below s args y 3 8 (PreOf R mc ms Pc) (PostOf Qc mc ms free) := va_backW (hh := hh) (bytes := bytes) (maxL := maxL) (ret := ret) hM hp.1 hrc hrs hfr hlo hws hcw (fun a' U hW => word_at hW (Or.inl (by first | rfl | simp [Cond.onTables, Cond.keeps, Cond.steady])) hini)
  obtain ⟨hx, hb, hml, ho, -⟩ := S
  intro T hT X
  obtain ⟨v, vm₁, ⟨U', l2, c2, s2⟩, hW₁, X', ⟨g', mk, t, L, e1, e2, hq, h1, hL, h2, h3⟩, st⟩ := vx_callSW X hx (hh := hh) (bytes := bytes) (maxL := maxL) (ret := ret) ho hl hstt hini hcode hy hK hg (hsize.trans hml.symm) (argsL := As) (rest := rest) (fun sig h => hn.trans (hlen sig h)) hstack hW (by rw [hb]; exact hdg)
    (fun vm₁ hW₁ => ⟨hf.1, hf.2, hp.2 (T.setVm vm₁) hT hW₁⟩)
  dsimp only [Pt.U, Pt.locs, Pt.cells, Pt.slots] at X' e1 e2 h1 h2 h3 st
  subst h1; subst h2; subst h3
  exact ⟨v, (T.setVm vm₁).calling g' mk As.toArray, t, U', L, hT, X', hL, e1, e2, hq, st⟩
/-- not caught here, past rows that name other classes: it goes on to the caller -/
theorem vx_outP {p : Program} {l : Launch} {e : Env} {R : Room} {s : State} {m : MethodId} {args : Array Value} {below : List Frame} {meth : Method} {c : Code} {H : Heap} {locs : List Loc} {cells slots : Nat} {free : Addr → Prop} {ls : Array Slot} {rest : List Value} {Qc : Array Value → State → Outcome → State → Prop} {XC : String → State → State → Prop}
    {pc : Nat} {own E : String} {ce : Cell} {q : Addr} {mc ms : Nat} (hown : s.vm.findClass own = some m.cls) (hlocks : meth.locks = false)
    (hpass : ∀ z ∈ c.exceptionTable.toList, covers z pc = false ∨ (z.catchType ≠ 0 ∧ ∃ nm : String, (Cond.classLink own z.catchType nm).before args s = true ∧ va_Nc E nm s)) (hcell : H[q]? = some ce) (hv : ce.vm = .none) (hcl : s.vm.findClass E = some ce.cls)
    (hx : ∀ t : State, t.heap = H → s.vm.Alike t.vm → XC E s t) (hf : ∀ z ∈ locs, free z.base) (hc : cells ≤ mc) (hs : slots ≤ ms) :
    vx_W p l e R s m args below meth c H locs cells slots (vx_MQ below Qc XC args s mc ms free) (F0 m pc ls rest) q := by
  intro T hT X
  have hpl : e.platform.magicAccessors = ({} : Platform).magicAccessors := by rw [X.admits.platform]
  obtain ⟨vm', hW', X', st⟩ := X.outThrough hlocks q (g := F0 m pc ls rest) rfl rfl rfl (cell := ce) (by rw [hT]; exact hcell) (by rw [hv]; rfl)
    (by obtain ⟨k9, h9, -⟩ := Vm.findClass_spec hcl; exact ⟨k9, h9⟩) (fun z hz => by
      rcases hpass z hz with h | ⟨hz0, nm, hl1, hn1⟩
      · exact Or.inl h
      · obtain ⟨c6, hc6, hcl6⟩ := Cond.classLink_spec hown hl1 e.platform hpl
        obtain ⟨a8, b8, h1, h2, h3⟩ := hn1
        cases Option.some.inj (h1.symm.trans hcl)
        cases Option.some.inj (h2.symm.trans hc6)
        exact Or.inr ⟨hz0, _, hcl6, h3⟩)
  obtain ⟨g₀, hfr⟩ := X'.frames_eq
  have hcell9 : ((T.setVm vm').setFrames (.throwing q :: below)).heap[q]? = some ce := by
    show T.heap[q]? = some ce
    rw [hT]; exact hcell
  have hend : Ended ((T.setVm vm').setFrames (.throwing q :: below)) below (.threw q) := State.frames_setFrames _ (State.cur_lt_of_frames hfr)
  refine ⟨(T.setVm vm').setFrames (.throwing q :: below), ?_, .threw q, X'.here.running, hend, Or.inr ⟨q, rfl, E, ce, locs, hx _ hT (X'.ends _).1.alike, hcell9, hv, hcl, (X'.ends _).1, (X'.ends _).2.mono hc hs, hf⟩⟩
  rw [X.pushThrowing_eq]
  exact st
/-- a thing of a world lies in the heap -/
theorem vx_lt {D : va_G} {cl : List vw_C} {ws : va_W} {H1 : Heap} (h : va_P D cl ws H1) {k : Nat} {q : Nat × va_E} (hk : ws[k]? = some q) : q.1 < H1.size := (h k q hk).lt
end VXS
/-! ===== END ===== -/
/-! ===== BEGIN methods with a table of their own: called by a name, returning or throwing ===== -/
section VXH
/-! vx_backW, vx_callVX, vx_callSX, vx_callVW, vx_runVW, vx_runVX, vx_runSX, vx_ofWH follow the same proofs as their sisters above (Free/Laws.lean, Shelf42/LK1.lean); vx_outP calls Shelf42/NT130.lean (outThrough). -/
section
variable {l : Launch} {R : Room} {p : Program} {e : Env} {below : List Frame} {s : State} {sargs : Array Value} {y : MethodName} {len W9 : Nat}
theorem vx_backW {ws : List Cond} {rm : Room} {Pc : Array Value → State → Prop} {Qc : Array Value → State → Outcome → State → Prop} {XC : String → State → State → Prop} {mc ms : Nat} {free : Addr → Prop} {bytes : ByteArray} {maxL : Nat} {ret : Option FieldType} {hh : List (Nat × Nat × Nat × Nat)}
    (hM : vx_Met l y ws rm Pc Qc XC mc ms free) (hblind : FrameBlind Pc) (hrc : rm.cells = mc) (hrs : rm.slots = ms)
    (hframes : rm.frames + 1 ≤ R.frames) (hlocals : W9 + (maxL + 11) + rm.locals ≤ R.locals)
    (hws : ∀ w ∈ ws, ∀ a' U, s.WarmedH U.vm → w.before a' U = true) (hcode : Cond.codeWith y bytes maxL ret hh ∈ ws) (hinit : ∀ a' U, s.WarmedH U.vm → (Cond.initialized y.cls).before a' U = true) :
    vx_Back l R p e below s sargs y len W9 (PreOf R mc ms Pc) (PostOf Qc mc ms free) (vx_Post XC mc ms free) := by
  intro m meth c A g ig mk a X hg hsize hdg hW hn hp
  have h1 : (headSpec ws rm).pre.before a A.U = true := atoms_intro fun w hw => hws w hw _ _ X.warmed
  have h2 : (Cond.codeWith y bytes maxL ret hh).before a A.U = true := hws _ hcode _ _ X.warmed
  have h3 : (Cond.initialized y.cls).before a A.U = true := hinit _ _ X.warmed
  have h4 : A.cells + (headSpec ws rm).room.cells ≤ R.cells := by rw [show (headSpec ws rm).room.cells = mc from hrc]; exact hp.1
  have h5 : A.slots + (headSpec ws rm).room.slots ≤ R.slots := by rw [show (headSpec ws rm).room.slots = ms from hrs]; exact hp.2.1
  have hPc : Pc a (A.U.calling g mk a) := hblind _ _ _ _ hp.2.2
  obtain ⟨U, Ls, c0, s0⟩ := A
  dsimp only [Pt.U, Pt.locs, Pt.cells, Pt.slots] at h1 h2 h3 h4 h5 X hn hPc ⊢
  obtain ⟨m9, methY, cY, hn9, hmY, hcY, -, hlY, -⟩ := Cond.codeWith_spec h2
  cases Option.some.inj (hn9.symm.trans hn)
  obtain ⟨kY, hkY, -⟩ := className_of_methodNamed hn
  have hinitY : kY.init = .initialized := Cond.initialized_spec (findClass_of_methodNamed hn) hkY h3
  have h : At U g.method c below := by rw [hg]; exact X.here
  have hlocals9 : W9 + (maxL + 11) + (headSpec ws rm).room.locals ≤ R.locals := hlocals
  have happ : (headSpec ws rm).appliesLoose y e.platform (U.calling g mk a) = true :=
    Spec.appliesLoose_calling (g := g) h hdg hn hkY hinitY
      (X.room_calling (g := g) (R' := (headSpec ws rm).room) hsize hmY hcY hframes (by rw [hlY]; omega) h4 h5) h1
  obtain ⟨mid, hmid⟩ := h.above
  have hfr : (U.setTop g).frames = (.java g :: mid) ++ below := by rw [State.frames_setTop' g h.top, hmid]; rfl
  obtain ⟨o, s₂, hsteps, -, hend, hq⟩ := Steps.callFree hM p X.admits X.cas X.clock (acts := []) hfr happ hPc trivial
  have hq' : vx_Q Qc XC mc ms free a (U.calling g mk a) o s₂ := hq
  rw [State.frames_setTop' g h.top] at hend
  obtain ⟨g₀, hg0⟩ := Option.isSome_iff_exists.mp h.top
  obtain ⟨r, hr⟩ := State.topJava?_eq_some.mp hg0
  have hr' : (({ U with heap := s₂.heap, slotsUsed := s₂.slotsUsed } : State).setVm s₂.vm).frames = .java g₀ :: r := hr
  rcases hq' with ⟨hqc, L, hfe, hL⟩ | ⟨q, rfl, E, ce, L, hx, hce, hcv, hcl, hW₂, hsm, hL⟩
  · obtain ⟨⟨v, rfl⟩, hW₂, e2, q2, q3, q4, q5, q6⟩ := id hfe
    have e3 : s₂ = ({ (U.calling g mk a).setFrames s₂.frames with heap := s₂.heap, slotsUsed := s₂.slotsUsed } : State).setVm s₂.vm := by
      have : s₂ = ({ s₂ with vm := (U.calling g mk a).vm } : State).setVm s₂.vm := rfl
      rw [e2] at this
      exact this
    obtain ⟨c₂, i₂, len₂, hc₂, hd₂, hf₂⟩ := hend
    have hW' : U.WarmedH s₂.vm := hW₂
    have hcc : c₂ = c := by
      have h1 : s₂.code? g.method = U.code? g.method := by
        rw [State.code?_eq, State.code?_eq, hW'.alike.method?]
      exact Option.some.inj (hc₂.symm.trans (h1.trans h.code))
    subst hcc
    have hlen : len₂ = len := by rw [hdg] at hd₂; cases hd₂; rfl
    subst hlen
    have hs₂ : s₂ = (({ U with heap := s₂.heap, slotsUsed := s₂.slotsUsed } : State).setVm s₂.vm).setTop { g with pc := g.pc + len₂, stack := v.toList ++ g.stack } := by
      refine e3.trans ?_
      rw [hf₂, State.calling_eq h.top, State.setFrames_setFrames, State.setTop_of_frames _ hr', hr]
      rfl
    have hsame : U.sameButNew ({ U with heap := s₂.heap, slotsUsed := s₂.slotsUsed } : State) L mc ms := by
      refine ⟨?_, q2, q3, q4, q5, q6⟩
      obtain ⟨t, ht, -⟩ := State.frames_cons hr
      show ({ U with heap := s₂.heap, slotsUsed := s₂.slotsUsed } : State) = { U.setFrames U.frames with heap := s₂.heap, slotsUsed := s₂.slotsUsed }
      rw [State.setFrames_self ht]
    subst hg
    refine Or.inl ⟨v, ⟨(({ U with heap := s₂.heap, slotsUsed := s₂.slotsUsed } : State).setVm s₂.vm), Ls ++ L, c0 + mc, s0 + ms⟩,
      ⟨X.admits, X.cas, X.clock, X.frames, X.room, X.hears, X.method, X.code, (X.here.setHeapUsed s₂.heap s₂.slotsUsed).setVm hW'.alike, X.tail, State.WarmedH.trans X.warmed hW', X.limits, X.bytes, X.same.trans (hsame.setVm s.vm)⟩,
      ⟨g, mk, s₂, L, rfl, rfl, hqc, rfl, hL, rfl, rfl⟩, ?_⟩
    show Steps p.tables e below _ ((({ U with heap := s₂.heap, slotsUsed := s₂.slotsUsed } : State).setVm s₂.vm).setTop { g with pc := g.pc + len₂, stack := v.toList ++ g.stack })
    rw [← hs₂]
    exact hsteps
  · obtain ⟨e2, q2, q3, q4, q5, q6⟩ := id hsm
    have e3 : s₂ = ({ (U.calling g mk a).setFrames s₂.frames with heap := s₂.heap, slotsUsed := s₂.slotsUsed } : State).setVm s₂.vm := by
      have : s₂ = ({ s₂ with vm := (U.calling g mk a).vm } : State).setVm s₂.vm := rfl
      rw [e2] at this
      exact this
    have hf₂ : s₂.frames = .throwing q :: .java g :: U.frames.tail := hend
    have hW' : U.WarmedH s₂.vm := hW₂
    have hs₂ : s₂ = ((({ U with heap := s₂.heap, slotsUsed := s₂.slotsUsed } : State).setVm s₂.vm).setTop g).pushFrame (.throwing q) := by
      refine e3.trans ?_
      rw [hf₂, State.calling_eq h.top, State.setFrames_setFrames, State.pushFrame, State.frames_setTop _ hr', State.setTop_of_frames _ hr', State.setFrames_setFrames, hr]
      rfl
    have hsame : U.sameButNew ({ U with heap := s₂.heap, slotsUsed := s₂.slotsUsed } : State) L mc ms := by
      refine ⟨?_, q2, q3, q4, q5, q6⟩
      obtain ⟨t, ht, -⟩ := State.frames_cons hr
      show ({ U with heap := s₂.heap, slotsUsed := s₂.slotsUsed } : State) = { U.setFrames U.frames with heap := s₂.heap, slotsUsed := s₂.slotsUsed }
      rw [State.setFrames_self ht]
    subst hg
    refine Or.inr ⟨q, ⟨(({ U with heap := s₂.heap, slotsUsed := s₂.slotsUsed } : State).setVm s₂.vm), Ls ++ L, c0 + mc, s0 + ms⟩,
      ⟨X.admits, X.cas, X.clock, X.frames, X.room, X.hears, X.method, X.code, (X.here.setHeapUsed s₂.heap s₂.slotsUsed).setVm hW'.alike, X.tail, State.WarmedH.trans X.warmed hW', X.limits, X.bytes, X.same.trans (hsame.setVm s.vm)⟩,
      ⟨g, mk, s₂, L, E, ce, rfl, rfl, hx, hce, hcv, hcl, rfl, hL, rfl, rfl⟩, ?_⟩
    show Steps p.tables e below _ (((({ U with heap := s₂.heap, slotsUsed := s₂.slotsUsed } : State).setVm s₂.vm).setTop g).pushFrame (.throwing q))
    rw [← hs₂]
    exact hsteps
end
variable {p : Program} {l : Launch} {e : Env} {R : Room} {s : State} {m : MethodId} {args : Array Value} {below : List Frame} {meth : Method} {c : Code} {T : State} {H : Heap} {locs : List Loc} {cells slots : Nat}
theorem vx_callVX (X : Stand p l e R s m args below meth c T locs cells slots) (hexec : p.tables.exec = Jvm.exec) {own C : String} {index : Nat} {y : MethodName} {bytes : ByteArray} {maxL : Nat} {ret : Option FieldType} {hh : List (Nat × Nat × Nat × Nat)}
    (hown : s.vm.findClass own = some m.cls) (hlink : (Cond.methodLink own index y).before args s = true) (hinst : (Cond.instanceMethod y).before args s = true) (hsel : (Cond.selects C y y).before args s = true)
    (hcode : (Cond.codeWith y bytes maxL ret hh).before args s = true) (hy : y.cls ≠ "java/lang/invoke/MethodHandle" ∧ y.cls ≠ "java/lang/invoke/VarHandle")
    {W9 : Nat} {Pre : Pt → Array Value → Prop} {Post : Pt → Array Value → Option Value → Pt → Prop} {PostX : Pt → Array Value → Addr → Pt → Prop} (hK : vx_Back l R p e below s args y 3 W9 Pre Post PostX)
    {b : Addr} {cellB : Cell} (hcell : T.heap[b]? = some cellB) (hobj : cellB.vm.isStatics = false) (hcls : s.vm.findClass C = some cellB.cls)
    {g : JFrame} (hg : g.method = m) (hsize : g.locals.size = c.maxLocals) {argsL rest : List Value} (hlen : ∀ sig, parseMethodDescriptor y.desc = some sig → argsL.length = sig.parameters.length)
    (hstack : g.stack = argsL.reverse ++ .ref b :: rest) (hW : 2 * g.monitorRoom + (rest.map fun v => v.category).sum ≤ W9) (hdg : decode c.code g.pc = .ok (.invokevirtual index, 3))
    (hpre : ∀ vm₁, s.WarmedH vm₁ → Pre ⟨T.setVm vm₁, locs, cells, slots⟩ (Value.ref b :: argsL).toArray) :
    (∃ (v : Option Value) (vm₁ : Vm) (B : Pt), s.WarmedH vm₁ ∧ Stand p l e R s m args below meth c B.U B.locs B.cells B.slots ∧ Post ⟨T.setVm vm₁, locs, cells, slots⟩ (Value.ref b :: argsL).toArray v B ∧
      ∀ target, Steps p.tables e below (B.U.setTop { g with pc := g.pc + 3, stack := v.toList ++ rest }) target → Steps p.tables e below (T.setTop g) target) ∨
    (∃ (q : Addr) (vm₁ : Vm) (B : Pt), s.WarmedH vm₁ ∧ Stand p l e R s m args below meth c B.U B.locs B.cells B.slots ∧ PostX ⟨T.setVm vm₁, locs, cells, slots⟩ (Value.ref b :: argsL).toArray q B ∧
      Steps p.tables e below (T.setTop g) ((B.U.setTop { g with stack := rest }).pushFrame (.throwing q))) := by
  obtain ⟨mk, methM, hnamed, hmethM, hstM, habM⟩ := Cond.instanceMethod_spec hinst
  obtain ⟨m8, methM', cM, hn8, hmethM', -, -, -, -, -, -, hsigM⟩ := Cond.codeWith_spec hcode
  cases Option.some.inj (hn8.symm.trans hnamed)
  cases hmethM.symm.trans hmethM'
  obtain ⟨c2, r2, m2, q1, q2, q3, q4, kP, hkP, hkPi⟩ := Cond.selects_spec hsel
  cases hcls.symm.trans q1
  cases (State.methodFound?_of_named hnamed hy).symm.trans q2
  cases hnamed.symm.trans q3
  have hselP : selectMethod e.platform s.vm cellB.cls mk = .method mk := by rw [Launch.admits_selectMethod X.admits]; exact q4
  obtain ⟨vm₁, X₁, hstep₁⟩ := X.invokevirtual hexec hown hlink hnamed hmethM hstM hkP hkPi hy (a := b) (cell := cellB) hcell
    (fun z h => by rw [h] at hobj; cases hobj) hselP hmethM habM hkP hkPi (g := g) hg (argsL := argsL) (rest := rest) (hlen _ hsigM) hstack hdg
  rcases hK m meth c ⟨T.setVm vm₁, locs, cells, slots⟩ { g with stack := rest } (.invokevirtual index) mk (Value.ref b :: argsL).toArray X₁ hg hsize hdg hW (X₁.named hnamed) (hpre vm₁ X₁.warmed) with ⟨v, B, X', hpost, hsteps⟩ | ⟨q, B, X', hpost, hsteps⟩
  · exact Or.inl ⟨v, vm₁, B, X₁.warmed, X', hpost, fun target h => hstep₁ _ fun acts => by rw [doInvoke_state]; exact hsteps.trans h⟩
  · exact Or.inr ⟨q, vm₁, B, X₁.warmed, X', hpost, hstep₁ _ fun acts => by rw [doInvoke_state]; exact hsteps⟩
theorem vx_callSX (X : Stand p l e R s m args below meth c T locs cells slots) (hexec : p.tables.exec = Jvm.exec) {own : String} {index : Nat} {y : MethodName} {bytes : ByteArray} {maxL : Nat} {ret : Option FieldType} {hh : List (Nat × Nat × Nat × Nat)}
    (hown : s.vm.findClass own = some m.cls) (hlink : (Cond.methodLink own index y).before args s = true) (hstat : (Cond.static y).before args s = true) (hinit : (Cond.initialized y.cls).before args s = true)
    (hcode : (Cond.codeWith y bytes maxL ret hh).before args s = true) (hy : y.cls ≠ "java/lang/invoke/MethodHandle" ∧ y.cls ≠ "java/lang/invoke/VarHandle")
    {W9 : Nat} {Pre : Pt → Array Value → Prop} {Post : Pt → Array Value → Option Value → Pt → Prop} {PostX : Pt → Array Value → Addr → Pt → Prop} (hK : vx_Back l R p e below s args y 3 W9 Pre Post PostX)
    {g : JFrame} (hg : g.method = m) (hsize : g.locals.size = c.maxLocals) {argsL rest : List Value} (hlen : ∀ sig, parseMethodDescriptor y.desc = some sig → argsL.length = sig.parameters.length)
    (hstack : g.stack = argsL.reverse ++ rest) (hW : 2 * g.monitorRoom + (rest.map fun v => v.category).sum ≤ W9) (hdg : decode c.code g.pc = .ok (.invokestatic index, 3))
    (hpre : ∀ vm₁, s.WarmedH vm₁ → Pre ⟨T.setVm vm₁, locs, cells, slots⟩ argsL.toArray) :
    (∃ (v : Option Value) (vm₁ : Vm) (B : Pt), s.WarmedH vm₁ ∧ Stand p l e R s m args below meth c B.U B.locs B.cells B.slots ∧ Post ⟨T.setVm vm₁, locs, cells, slots⟩ argsL.toArray v B ∧
      ∀ target, Steps p.tables e below (B.U.setTop { g with pc := g.pc + 3, stack := v.toList ++ rest }) target → Steps p.tables e below (T.setTop g) target) ∨
    (∃ (q : Addr) (vm₁ : Vm) (B : Pt), s.WarmedH vm₁ ∧ Stand p l e R s m args below meth c B.U B.locs B.cells B.slots ∧ PostX ⟨T.setVm vm₁, locs, cells, slots⟩ argsL.toArray q B ∧
      Steps p.tables e below (T.setTop g) ((B.U.setTop { g with stack := rest }).pushFrame (.throwing q))) := by
  obtain ⟨mk, methM, cM, hnamed, hmethM, -, -, -, -, -, -, hsigM⟩ := Cond.codeWith_spec hcode
  have hstatic : methM.isStatic = true := Cond.static_spec hnamed hmethM hstat
  obtain ⟨kP, hkP, -⟩ := className_of_methodNamed hnamed
  have hinitP : kP.init = .initialized := Cond.initialized_spec (findClass_of_methodNamed hnamed) hkP hinit
  obtain ⟨vm₁, X₁, hstep₁⟩ := X.invokestatic hexec hown hlink hnamed hmethM hstatic hkP hinitP hy (g := g) hg (argsL := argsL) (rest := rest) (hlen _ hsigM) hstack hdg
  rcases hK m meth c ⟨T.setVm vm₁, locs, cells, slots⟩ { g with stack := rest } (.invokestatic index) mk argsL.toArray X₁ hg hsize hdg hW (X₁.named hnamed) (hpre vm₁ X₁.warmed) with ⟨v, B, X', hpost, hsteps⟩ | ⟨q, B, X', hpost, hsteps⟩
  · exact Or.inl ⟨v, vm₁, B, X₁.warmed, X', hpost, fun target h => hstep₁ _ fun acts => by rw [doInvoke_state]; exact hsteps.trans h⟩
  · exact Or.inr ⟨q, vm₁, B, X₁.warmed, X', hpost, hstep₁ _ fun acts => by rw [doInvoke_state]; exact hsteps⟩
theorem vx_callVW (X : Stand p l e R s m args below meth c T locs cells slots) (hexec : p.tables.exec = Jvm.exec) {own C : String} {index : Nat} {y : MethodName} {bytes : ByteArray} {maxL : Nat} {ret : Option FieldType} {hh : List (Nat × Nat × Nat × Nat)}
    (hown : s.vm.findClass own = some m.cls) (hlink : (Cond.methodLink own index y).before args s = true) (hinst : (Cond.instanceMethod y).before args s = true) (hsel : (Cond.selects C y y).before args s = true)
    (hcode : (Cond.codeWith y bytes maxL ret hh).before args s = true) (hy : y.cls ≠ "java/lang/invoke/MethodHandle" ∧ y.cls ≠ "java/lang/invoke/VarHandle")
    {W9 : Nat} {Pre : Pt → Array Value → Prop} {Post : Pt → Array Value → Option Value → Pt → Prop} (hK : Back l R p e below s args y 3 W9 Pre Post)
    {b : Addr} {cellB : Cell} (hcell : T.heap[b]? = some cellB) (hobj : cellB.vm.isStatics = false) (hcls : s.vm.findClass C = some cellB.cls)
    {g : JFrame} (hg : g.method = m) (hsize : g.locals.size = c.maxLocals) {argsL rest : List Value} (hlen : ∀ sig, parseMethodDescriptor y.desc = some sig → argsL.length = sig.parameters.length)
    (hstack : g.stack = argsL.reverse ++ .ref b :: rest) (hW : 2 * g.monitorRoom + (rest.map fun v => v.category).sum ≤ W9) (hdg : decode c.code g.pc = .ok (.invokevirtual index, 3))
    (hpre : ∀ vm₁, s.WarmedH vm₁ → Pre ⟨T.setVm vm₁, locs, cells, slots⟩ (Value.ref b :: argsL).toArray) :
    ∃ (v : Option Value) (vm₁ : Vm) (B : Pt), s.WarmedH vm₁ ∧ Stand p l e R s m args below meth c B.U B.locs B.cells B.slots ∧ Post ⟨T.setVm vm₁, locs, cells, slots⟩ (Value.ref b :: argsL).toArray v B ∧
      ∀ target, Steps p.tables e below (B.U.setTop { g with pc := g.pc + 3, stack := v.toList ++ rest }) target → Steps p.tables e below (T.setTop g) target := by
  obtain ⟨mk, methM, hnamed, hmethM, hstM, habM⟩ := Cond.instanceMethod_spec hinst
  obtain ⟨m8, methM', cM, hn8, hmethM', -, -, -, -, -, -, hsigM⟩ := Cond.codeWith_spec hcode
  cases Option.some.inj (hn8.symm.trans hnamed)
  cases hmethM.symm.trans hmethM'
  obtain ⟨c2, r2, m2, q1, q2, q3, q4, kP, hkP, hkPi⟩ := Cond.selects_spec hsel
  cases hcls.symm.trans q1
  cases (State.methodFound?_of_named hnamed hy).symm.trans q2
  cases hnamed.symm.trans q3
  have hselP : selectMethod e.platform s.vm cellB.cls mk = .method mk := by rw [Launch.admits_selectMethod X.admits]; exact q4
  obtain ⟨vm₁, X₁, hstep₁⟩ := X.invokevirtual hexec hown hlink hnamed hmethM hstM hkP hkPi hy (a := b) (cell := cellB) hcell
    (fun z h => by rw [h] at hobj; cases hobj) hselP hmethM habM hkP hkPi (g := g) hg (argsL := argsL) (rest := rest) (hlen _ hsigM) hstack hdg
  obtain ⟨v, B, X', hpost, hsteps⟩ := hK m meth c ⟨T.setVm vm₁, locs, cells, slots⟩ { g with stack := rest } (.invokevirtual index) mk (Value.ref b :: argsL).toArray X₁ hg hsize hdg hW (X₁.named hnamed) (hpre vm₁ X₁.warmed)
  exact ⟨v, vm₁, B, X₁.warmed, X', hpost, fun target h => hstep₁ _ fun acts => by rw [doInvoke_state]; exact hsteps.trans h⟩
abbrev vx_CVW (R : Room) (s : State) (args : Array Value) (own C : String) (index : Nat) (y : MethodName) (bytes : ByteArray) (maxL : Nat) (ret : Option FieldType) (hh : List (Nat × Nat × Nat × Nat)) (ws : List Cond) (rm : Room) (mc ms n : Nat) : Prop :=
  (rm.cells = mc ∧ rm.slots = ms ∧ rm.frames + 1 ≤ R.frames ∧ 8 + (maxL + 11) + rm.locals ≤ R.locals ∧ (∀ w ∈ ws, ∀ (a' : Array Value) (U : State), s.WarmedH U.vm → w.before a' U = true) ∧ Cond.codeWith y bytes maxL ret hh ∈ ws) ∧
  (Cond.codeWith y bytes maxL ret hh).before args s = true ∧ (Cond.initialized y.cls).before args s = true ∧ (y.cls ≠ "java/lang/invoke/MethodHandle" ∧ y.cls ≠ "java/lang/invoke/VarHandle") ∧
  (∀ sig, parseMethodDescriptor y.desc = some sig → n = sig.parameters.length) ∧ (Cond.methodLink own index y).before args s = true ∧ (Cond.instanceMethod y).before args s = true ∧ (Cond.selects C y y).before args s = true
theorem vx_cwVW {own C : String} {index maxL mc ms : Nat} {y : MethodName} {bytes : ByteArray} {ret : Option FieldType} {hh : List (Nat × Nat × Nat × Nat)} {Ts ws ws' : List Cond} {rm : Room} (n : Nat) (ht : ∀ w ∈ Ts, w.before args s = true) (hT : GoodIn Ts (wsV own index C y ws)) (hw : ws = Cond.codeWith y bytes maxL ret hh :: ws') (hrc : rm.cells = mc) (hrs : rm.slots = ms)
    (hd : y.cls = C ∧ y.cls ≠ "java/lang/invoke/MethodHandle" ∧ y.cls ≠ "java/lang/invoke/VarHandle" ∧ (parseMethodDescriptor y.desc).map (fun d => d.parameters.length) = some n) (hR : rm.frames + 1 ≤ R.frames ∧ 8 + (maxL + 11) + rm.locals ≤ R.locals) :
    vx_CVW R s args own C index y bytes maxL ret hh ws rm mc ms n := by
  obtain ⟨hC, hd⟩ := hd
  subst hC
  have ok : ∀ w ∈ wsV own index y.cls y ws, w.before args s = true := fun w h => ht w (hT w h).1
  have hG : GoodIn Ts ws := fun w h => hT w (by unfold wsV; exact List.mem_append_right _ h)
  have hc : Cond.codeWith y bytes maxL ret hh ∈ ws := by rw [hw]; exact List.mem_cons_self
  refine ⟨⟨hrc, hrs, hR.1, hR.2, pay_in ht hG, hc⟩, ht _ (hG _ hc).1, ok _ (by simp [wsV]), ⟨hd.1, hd.2.1⟩, fun sig h => ?_, ok _ (by simp [wsV]), ok _ (by simp [wsV]), ok _ (by simp [wsV])⟩
  have h2 := hd.2.2
  rw [h] at h2
  exact (Option.some.inj h2).symm
theorem vx_runVW {y : MethodName} {bytes cc : ByteArray} {maxL nL mc ms n index : Nat} {ret : Option FieldType} {hh : List (Nat × Nat × Nat × Nat)} {ws : List Cond} {rm : Room} {Pc : Array Value → State → Prop} {Qc : Array Value → State → Outcome → State → Prop} {free : Addr → Prop} {Ts : List Cond} {own C : String} {b : Addr} {As rest : List Value} {g : JFrame}
    (S : CallFix p m c cc nL s args Ts own) (hM : Met l y ws rm Pc Qc mc ms free) (cw : vx_CVW R s args own C index y bytes maxL ret hh ws rm mc ms n) (hp : PreV s H C b Pc As)
    (hg : g.method = m) (hn : As.length = n) (hsize : g.locals.size = nL) (hstack : g.stack = As.reverse ++ .ref b :: rest) (hW : 2 * g.monitorRoom + (rest.map fun v => v.category).sum ≤ 8) (hdg : decode cc g.pc = .ok (.invokevirtual index, 3)) (hf : cells + mc ≤ R.cells ∧ slots + ms ≤ R.slots) :
    va_Run p l e R s m args below meth c H locs cells slots mc ms g rest (Qc (Value.ref b :: As).toArray) free := by
  obtain ⟨⟨hrc, hrs, hfr, hlo, hws, hcw⟩, hcode, hini, hy, hlen, hl, hin, hse⟩ := cw
  have hK : Back l R p e below s args y 3 8 (PreOf R mc ms Pc) (PostOf Qc mc ms free) := va_backW (hh := hh) (bytes := bytes) (maxL := maxL) (ret := ret) hM hp.1 hrc hrs hfr hlo hws hcw (fun a' U hW => word_at hW (Or.inl (by first | rfl | simp [Cond.onTables, Cond.keeps, Cond.steady])) hini)
  obtain ⟨hx, hb, hml, ho, -⟩ := S
  obtain ⟨-, ⟨cellB, hcB, hoB, hclB⟩, hPc⟩ := hp
  intro T hT X
  obtain ⟨v, vm₁, ⟨U', l2, c2, s2⟩, hW₁, X', ⟨g', mk, t, L, e1, e2, hq, h1, hL, h2, h3⟩, st⟩ := vx_callVW X hx (C := C) (hh := hh) (bytes := bytes) (maxL := maxL) (ret := ret) ho hl hin hse hcode hy hK (by rw [hT]; exact hcB) hoB hclB hg (hsize.trans hml.symm) (argsL := As) (rest := rest) (fun sig h => hn.trans (hlen sig h)) hstack hW (by rw [hb]; exact hdg)
    (fun vm₁ hW₁ => ⟨hf.1, hf.2, hPc (T.setVm vm₁) hT hW₁⟩)
  dsimp only [Pt.U, Pt.locs, Pt.cells, Pt.slots] at X' e1 e2 h1 h2 h3 st
  subst h1; subst h2; subst h3
  exact ⟨v, (T.setVm vm₁).calling g' mk (Value.ref b :: As).toArray, t, U', L, hT, X', hL, e1, e2, hq, st⟩
section
variable {y : MethodName} {bytes cc : ByteArray} {maxL nL mc ms n index : Nat} {ret : Option FieldType} {ws : List Cond} {rm : Room} {Pc : Array Value → State → Prop} {Qc : Array Value → State → Outcome → State → Prop} {XC : String → State → State → Prop} {free : Addr → Prop} {Ts : List Cond} {own C : String} {b : Addr} {As rest : List Value} {g : JFrame}
theorem vx_runVX {hh : List (Nat × Nat × Nat × Nat)} (S : CallFix p m c cc nL s args Ts own) (hM : vx_Met l y ws rm Pc Qc XC mc ms free) (cw : vx_CVW R s args own C index y bytes maxL ret hh ws rm mc ms n) (hp : PreV s H C b Pc As)
    (hg : g.method = m) (hn : As.length = n) (hsize : g.locals.size = nL) (hstack : g.stack = As.reverse ++ .ref b :: rest) (hW : 2 * g.monitorRoom + (rest.map fun v => v.category).sum ≤ 8) (hdg : decode cc g.pc = .ok (.invokevirtual index, 3)) (hf : cells + mc ≤ R.cells ∧ slots + ms ≤ R.slots) :
    vx_Run p l e R s m args below meth c H locs cells slots mc ms g rest (Qc (Value.ref b :: As).toArray) XC free := by
  obtain ⟨⟨hrc, hrs, hfr, hlo, hws, hcw⟩, hcode, hini, hy, hlen, hl, hin, hse⟩ := cw
  have hK : vx_Back l R p e below s args y 3 8 (PreOf R mc ms Pc) (PostOf Qc mc ms free) (vx_Post XC mc ms free) := vx_backW (hh := hh) (bytes := bytes) (maxL := maxL) (ret := ret) hM hp.1 hrc hrs hfr hlo hws hcw (fun a' U hW => word_at hW (Or.inl (by first | rfl | simp [Cond.onTables, Cond.keeps, Cond.steady])) hini)
  obtain ⟨hx, hb, hml, ho, -⟩ := S
  obtain ⟨-, ⟨cellB, hcB, hoB, hclB⟩, hPc⟩ := hp
  intro T hT X
  rcases vx_callVX X hx (C := C) (hh := hh) (bytes := bytes) (maxL := maxL) (ret := ret) ho hl hin hse hcode hy hK (by rw [hT]; exact hcB) hoB hclB hg (hsize.trans hml.symm) (argsL := As) (rest := rest) (fun sig h => hn.trans (hlen sig h)) hstack hW (by rw [hb]; exact hdg)
    (fun vm₁ hW₁ => ⟨hf.1, hf.2, hPc (T.setVm vm₁) hT hW₁⟩) with ⟨v, vm₁, ⟨U', l2, c2, s2⟩, hW₁, X', ⟨g', mk, t, L, e1, e2, hq, h1, hL, h2, h3⟩, st⟩ | ⟨q, vm₁, ⟨U', l2, c2, s2⟩, hW₁, X', ⟨g', mk, t, L, E, ce, e1, e2, hq, hce, hcv, hcl, h1, hL, h2, h3⟩, st⟩
  · dsimp only [Pt.U, Pt.locs, Pt.cells, Pt.slots] at X' e1 e2 h1 h2 h3 st
    subst h1; subst h2; subst h3
    exact Or.inl ⟨v, (T.setVm vm₁).calling g' mk (Value.ref b :: As).toArray, t, U', L, hT, X', hL, e1, e2, hq, st⟩
  · dsimp only [Pt.U, Pt.locs, Pt.cells, Pt.slots] at X' e1 e2 h1 h2 h3 st hcl
    subst h1; subst h2; subst h3
    exact Or.inr ⟨q, (T.setVm vm₁).calling g' mk (Value.ref b :: As).toArray, t, U', L, E, ce, hT, X', hL, e1, e2, hq, hce, hcv, vx_cls hW₁ hcl, st⟩
theorem vx_runSX {hh : List (Nat × Nat × Nat × Nat)} (S : CallFix p m c cc nL s args Ts own) (hM : vx_Met l y ws rm Pc Qc XC mc ms free) (cw : vx_CSW R s args own index y bytes maxL ret hh ws rm mc ms n) (hp : PreS s H Pc As)
    (hg : g.method = m) (hn : As.length = n) (hsize : g.locals.size = nL) (hstack : g.stack = As.reverse ++ rest) (hW : 2 * g.monitorRoom + (rest.map fun v => v.category).sum ≤ 8) (hdg : decode cc g.pc = .ok (.invokestatic index, 3)) (hf : cells + mc ≤ R.cells ∧ slots + ms ≤ R.slots) :
    vx_Run p l e R s m args below meth c H locs cells slots mc ms g rest (Qc As.toArray) XC free := by
  obtain ⟨⟨hrc, hrs, hfr, hlo, hws, hcw⟩, hcode, hini, hy, hlen, hl, hstt⟩ := cw
  have hK : vx_Back l R p e below s args y 3 8 (PreOf R mc ms Pc) (PostOf Qc mc ms free) (vx_Post XC mc ms free) := vx_backW (hh := hh) (bytes := bytes) (maxL := maxL) (ret := ret) hM hp.1 hrc hrs hfr hlo hws hcw (fun a' U hW => word_at hW (Or.inl (by first | rfl | simp [Cond.onTables, Cond.keeps, Cond.steady])) hini)
  obtain ⟨hx, hb, hml, ho, -⟩ := S
  intro T hT X
  rcases vx_callSX X hx (hh := hh) (bytes := bytes) (maxL := maxL) (ret := ret) ho hl hstt hini hcode hy hK hg (hsize.trans hml.symm) (argsL := As) (rest := rest) (fun sig h => hn.trans (hlen sig h)) hstack hW (by rw [hb]; exact hdg)
    (fun vm₁ hW₁ => ⟨hf.1, hf.2, hp.2 (T.setVm vm₁) hT hW₁⟩) with ⟨v, vm₁, ⟨U', l2, c2, s2⟩, hW₁, X', ⟨g', mk, t, L, e1, e2, hq, h1, hL, h2, h3⟩, st⟩ | ⟨q, vm₁, ⟨U', l2, c2, s2⟩, hW₁, X', ⟨g', mk, t, L, E, ce, e1, e2, hq, hce, hcv, hcl, h1, hL, h2, h3⟩, st⟩
  · dsimp only [Pt.U, Pt.locs, Pt.cells, Pt.slots] at X' e1 e2 h1 h2 h3 st
    subst h1; subst h2; subst h3
    exact Or.inl ⟨v, (T.setVm vm₁).calling g' mk As.toArray, t, U', L, hT, X', hL, e1, e2, hq, st⟩
  · dsimp only [Pt.U, Pt.locs, Pt.cells, Pt.slots] at X' e1 e2 h1 h2 h3 st hcl
    subst h1; subst h2; subst h3
    exact Or.inr ⟨q, (T.setVm vm₁).calling g' mk As.toArray, t, U', L, E, ce, hT, X', hL, e1, e2, hq, hce, hcv, vx_cls hW₁ hcl, st⟩
end
end VXH
theorem vx_ofWH {l : Launch} {y : MethodName} {ws ws' : List Cond} {rm : Room} {Pc : Array Value → State → Prop} {Qc : Array Value → State → Outcome → State → Prop} {XC : String → State → State → Prop} {mc ms : Nat} {free : Addr → Prop} {cc : ByteArray} {maxL : Nat} {ret : Option FieldType} {hh : List (Nat × Nat × Nat × Nat)}
    (hy : plainName y.cls = true) (hw : ws = Cond.codeWith y cc maxL ret hh :: ws')
    (body : ∀ p e s m args below meth c s₁, BodyLoose p l y (headSpec ws rm) cc maxL ret e s m args below meth c s₁ → c.maxLocals = maxL → Pc args s →
      W p l e (headSpec ws rm).room s m args below meth c s.heap [] 0 0 (vx_MQ below Qc XC args s mc ms free) (entryFrame m args maxL)) : vx_Met l y ws rm Pc Qc XC mc ms free := by
  refine MetFree.of_bodyS (code := cc) (maxLocals := maxL) (ret := ret) hy ?_ ?_
  · intro args s m h hn
    obtain ⟨m9, meth, c, hn9, h1, h2, h3, h4, -, h5, h6, -⟩ := Cond.codeWith_spec (atoms_spec (ws := ws) h _ (by rw [hw]; exact List.mem_cons_self))
    cases hn.symm.trans hn9
    exact ⟨meth, c, h1, h2, h3, h4, h5, h6⟩
  · intro p e s m args below meth c s₁ B hml hP _
    have hh0 : s₁.heap = s.heap := by rw [B.state]; rfl
    obtain ⟨t, a1, o, b1, b2, b3⟩ := body p e s m args below meth c s₁ B hml hP s₁ hh0 (Stand.of_body B)
    exact ⟨t, o, a1, b1, b2, b3⟩
/-! ===== END ===== -/
end
section
/-! ===== BEGIN printed: names, fields, word lists, decode rows ===== -/
def RX0 : String := "PerfectPew$Displacer"
def TX0 : u_T := fun k => match k with
  | 0 => ("PerfectPew$Displacer", "ranksByBucket", "LPerfectPew$Groups;", true)
  | 1 => ("PerfectPew$Displacer", "starts", "LPerfectPew$Row;", true)
  | 2 => ("PerfectPew$Displacer", "steps", "LPerfectPew$Row;", true)
  | 3 => ("PerfectPew$Displacer", "numbers", "LPerfectPew$Row;", true)
  | 4 => ("PerfectPew$Displacer", "displacements", "LPerfectPew$Row;", true)
  | 5 => ("PerfectPew$Displacer", "ranksByNumber", "LPerfectPew$Row;", true)
  | 6 => ("PerfectPew$Displacer", "keyCount", "I", false)
  | 7 => ("PerfectPew$Displacer", "bucketCount", "I", false)
  | _ => ("PerfectPew$Displacer", "seed", "I", false)
def tyX0 : Nat → FieldType := fun k => match k with
  | 0 => .object "PerfectPew$Groups"
  | 1 => .object "PerfectPew$Row"
  | 2 => .object "PerfectPew$Row"
  | 3 => .object "PerfectPew$Row"
  | 4 => .object "PerfectPew$Row"
  | 5 => .object "PerfectPew$Row"
  | 6 => .int
  | 7 => .int
  | _ => .int
abbrev wsX00 : List Cond := u_ws RX0 TX0 9
theorem nmX0 : ∀ a, a < 9 → ∀ b, b < 9 → a ≠ b → (TX0 a).2.1 ≠ (TX0 b).2.1 := by decide +kernel
theorem tyX0_ok : ∀ k, k < 9 → parseFieldDescriptor (TX0 k).2.2.1 = some (tyX0 k) := by decide +kernel
abbrev cX0_init : ByteArray := prog_2_method_1_code
def yX0_init : MethodName := ⟨RX0, "<init>", "()V"⟩
abbrev cX0_settle : ByteArray := prog_2_method_2_code
def yX0_settle : MethodName := ⟨RX0, "settle", "(LPerfectPew$KeyList;I)Z"⟩
abbrev cX0_hashKeys : ByteArray := prog_2_method_3_code
def yX0_hashKeys : MethodName := ⟨RX0, "hashKeys", "(LPerfectPew$KeyList;)V"⟩
abbrev cX0_displaceAll : ByteArray := prog_2_method_4_code
def yX0_displaceAll : MethodName := ⟨RX0, "displaceAll", "()Z"⟩
abbrev cX0_largestBucket : ByteArray := prog_2_method_5_code
def yX0_largestBucket : MethodName := ⟨RX0, "largestBucket", "()I"⟩
abbrev cX0_displace : ByteArray := prog_2_method_6_code
def yX0_displace : MethodName := ⟨RX0, "displace", "(I)Z"⟩
abbrev cX0_place : ByteArray := prog_2_method_7_code
def yX0_place : MethodName := ⟨RX0, "place", "(II)Z"⟩
abbrev cX0_takeBack : ByteArray := prog_2_method_8_code
def yX0_takeBack : MethodName := ⟨RX0, "takeBack", "(II)V"⟩
abbrev cX0_numberWith : ByteArray := prog_2_method_9_code
def yX0_numberWith : MethodName := ⟨RX0, "numberWith", "(II)I"⟩
abbrev cX0_numberOf : ByteArray := prog_2_method_10_code
def yX0_numberOf : MethodName := ⟨RX0, "numberOf", "(I)I"⟩
abbrev cX0_bucketOf : ByteArray := prog_2_method_11_code
def yX0_bucketOf : MethodName := ⟨RX0, "bucketOf", "(I)I"⟩
abbrev cX0_stepOf : ByteArray := prog_2_method_12_code
def yX0_stepOf : MethodName := ⟨RX0, "stepOf", "(I)I"⟩
def RX1 : String := "PerfectPew$Graph"
def TX1 : u_T := fun k => match k with
  | 0 => ("PerfectPew$Graph", "ends", "LPerfectPew$Groups;", true)
  | 1 => ("PerfectPew$Graph", "walked", "LPerfectPew$Row;", true)
  | 2 => ("PerfectPew$Graph", "values", "LPerfectPew$Row;", true)
  | 3 => ("PerfectPew$Graph", "reached", "LPerfectPew$Row;", true)
  | 4 => ("PerfectPew$Graph", "reachedCount", "I", false)
  | 5 => ("PerfectPew$Graph", "keyCount", "I", false)
  | 6 => ("PerfectPew$Graph", "vertexCount", "I", false)
  | _ => ("PerfectPew$Graph", "seed", "I", false)
def tyX1 : Nat → FieldType := fun k => match k with
  | 0 => .object "PerfectPew$Groups"
  | 1 => .object "PerfectPew$Row"
  | 2 => .object "PerfectPew$Row"
  | 3 => .object "PerfectPew$Row"
  | 4 => .int
  | 5 => .int
  | 6 => .int
  | _ => .int
abbrev wsX10 : List Cond := u_ws RX1 TX1 8
theorem nmX1 : ∀ a, a < 8 → ∀ b, b < 8 → a ≠ b → (TX1 a).2.1 ≠ (TX1 b).2.1 := by decide +kernel
theorem tyX1_ok : ∀ k, k < 8 → parseFieldDescriptor (TX1 k).2.2.1 = some (tyX1 k) := by decide +kernel
abbrev cX1_init : ByteArray := prog_3_method_1_code
def yX1_init : MethodName := ⟨RX1, "<init>", "()V"⟩
abbrev cX1_settle : ByteArray := prog_3_method_2_code
def yX1_settle : MethodName := ⟨RX1, "settle", "(LPerfectPew$KeyList;)Z"⟩
abbrev cX1_layEdges : ByteArray := prog_3_method_3_code
def yX1_layEdges : MethodName := ⟨RX1, "layEdges", "(LPerfectPew$KeyList;)V"⟩
abbrev cX1_giveValues : ByteArray := prog_3_method_4_code
def yX1_giveValues : MethodName := ⟨RX1, "giveValues", "()Z"⟩
abbrev cX1_walkFrom : ByteArray := prog_3_method_5_code
def yX1_walkFrom : MethodName := ⟨RX1, "walkFrom", "(I)Z"⟩
abbrev cX1_walkOn : ByteArray := prog_3_method_6_code
def yX1_walkOn : MethodName := ⟨RX1, "walkOn", "(I)Z"⟩
abbrev cX1_reach : ByteArray := prog_3_method_7_code
def yX1_reach : MethodName := ⟨RX1, "reach", "(II)V"⟩
abbrev cX1_vertexOf : ByteArray := prog_3_method_8_code
def yX1_vertexOf : MethodName := ⟨RX1, "vertexOf", "(LPerfectPew$Hash;I)I"⟩
abbrev cX1_sumFor : ByteArray := prog_3_method_9_code
def yX1_sumFor : MethodName := ⟨RX1, "sumFor", "(I)I"⟩
def RX2 : String := "PerfectPew$Groups"
def TX2 : u_T := fun k => match k with
  | 0 => ("PerfectPew$Groups", "groups", "LPerfectPew$Row;", true)
  | 1 => ("PerfectPew$Groups", "begins", "LPerfectPew$Row;", true)
  | 2 => ("PerfectPew$Groups", "members", "LPerfectPew$Row;", true)
  | 3 => ("PerfectPew$Groups", "thingCount", "I", false)
  | _ => ("PerfectPew$Groups", "groupCount", "I", false)
def tyX2 : Nat → FieldType := fun k => match k with
  | 0 => .object "PerfectPew$Row"
  | 1 => .object "PerfectPew$Row"
  | 2 => .object "PerfectPew$Row"
  | 3 => .int
  | _ => .int
abbrev wsX20 : List Cond := u_ws RX2 TX2 5
theorem nmX2 : ∀ a, a < 5 → ∀ b, b < 5 → a ≠ b → (TX2 a).2.1 ≠ (TX2 b).2.1 := by decide +kernel
theorem tyX2_ok : ∀ k, k < 5 → parseFieldDescriptor (TX2 k).2.2.1 = some (tyX2 k) := by decide +kernel
abbrev cX2_init : ByteArray := prog_4_method_1_code
def yX2_init : MethodName := ⟨RX2, "<init>", "(II)V"⟩
abbrev cX2_restart : ByteArray := prog_4_method_2_code
def yX2_restart : MethodName := ⟨RX2, "restart", "(II)V"⟩
abbrev cX2_assign : ByteArray := prog_4_method_3_code
def yX2_assign : MethodName := ⟨RX2, "assign", "(II)V"⟩
abbrev cX2_arrange : ByteArray := prog_4_method_4_code
def yX2_arrange : MethodName := ⟨RX2, "arrange", "()V"⟩
abbrev cX2_groupOf : ByteArray := prog_4_method_5_code
def yX2_groupOf : MethodName := ⟨RX2, "groupOf", "(I)I"⟩
abbrev cX2_beginOf : ByteArray := prog_4_method_6_code
def yX2_beginOf : MethodName := ⟨RX2, "beginOf", "(I)I"⟩
abbrev cX2_endOf : ByteArray := prog_4_method_7_code
def yX2_endOf : MethodName := ⟨RX2, "endOf", "(I)I"⟩
abbrev cX2_sizeOf : ByteArray := prog_4_method_8_code
def yX2_sizeOf : MethodName := ⟨RX2, "sizeOf", "(I)I"⟩
abbrev cX2_memberAt : ByteArray := prog_4_method_9_code
def yX2_memberAt : MethodName := ⟨RX2, "memberAt", "(I)I"⟩
def RX3 : String := "PerfectPew$Hash"
def TX3 : u_T := fun k => match k with
  | _ => ("", "", "", false)
def tyX3 : Nat → FieldType := fun k => match k with
  | _ => .int
abbrev wsX30 : List Cond := u_ws RX3 TX3 0
theorem nmX3 : ∀ a, a < 0 → ∀ b, b < 0 → a ≠ b → (TX3 a).2.1 ≠ (TX3 b).2.1 := by decide +kernel
theorem tyX3_ok : ∀ k, k < 0 → parseFieldDescriptor (TX3 k).2.2.1 = some (tyX3 k) := by decide +kernel
abbrev cX3_of : ByteArray := prog_5_method_4_code
def yX3_of : MethodName := ⟨RX3, "of", "(II)I"⟩
def RX4 : String := "PerfectPew$KeyList"
def TX4 : u_T := fun k => match k with
  | 0 => ("PerfectPew$KeyList", "places", "LPerfectPew$Row;", true)
  | _ => ("PerfectPew$KeyList", "size", "I", false)
def tyX4 : Nat → FieldType := fun k => match k with
  | 0 => .object "PerfectPew$Row"
  | _ => .int
abbrev wsX40 : List Cond := u_ws RX4 TX4 2
theorem nmX4 : ∀ a, a < 2 → ∀ b, b < 2 → a ≠ b → (TX4 a).2.1 ≠ (TX4 b).2.1 := by decide +kernel
theorem tyX4_ok : ∀ k, k < 2 → parseFieldDescriptor (TX4 k).2.2.1 = some (tyX4 k) := by decide +kernel
abbrev cX4_init : ByteArray := prog_6_method_1_code
def yX4_init : MethodName := ⟨RX4, "<init>", "()V"⟩
abbrev cX4_at : ByteArray := prog_6_method_2_code
def yX4_at : MethodName := ⟨RX4, "at", "(I)I"⟩
abbrev cX4_rankOf : ByteArray := prog_6_method_3_code
def yX4_rankOf : MethodName := ⟨RX4, "rankOf", "(I)I"⟩
abbrev cX4_holds : ByteArray := prog_6_method_4_code
def yX4_holds : MethodName := ⟨RX4, "holds", "(I)Z"⟩
abbrev cX4_insert : ByteArray := prog_6_method_5_code
def yX4_insert : MethodName := ⟨RX4, "insert", "(I)V"⟩
abbrev cX4_delete : ByteArray := prog_6_method_6_code
def yX4_delete : MethodName := ⟨RX4, "delete", "(I)V"⟩
def RX5 : String := "PerfectPew$Packer"
def TX5 : u_T := fun k => match k with
  | 0 => ("PerfectPew$Packer", "words", "[J", true)
  | 1 => ("PerfectPew$Packer", "bitsEach", "I", false)
  | _ => ("PerfectPew$Packer", "wordCount", "I", false)
def tyX5 : Nat → FieldType := fun k => match k with
  | 0 => .array .long
  | 1 => .int
  | _ => .int
abbrev wsX50 : List Cond := u_ws RX5 TX5 3
theorem nmX5 : ∀ a, a < 3 → ∀ b, b < 3 → a ≠ b → (TX5 a).2.1 ≠ (TX5 b).2.1 := by decide +kernel
theorem tyX5_ok : ∀ k, k < 3 → parseFieldDescriptor (TX5 k).2.2.1 = some (tyX5 k) := by decide +kernel
abbrev cX5_init : ByteArray := prog_7_method_1_code
def yX5_init : MethodName := ⟨RX5, "<init>", "()V"⟩
abbrev cX5_pack : ByteArray := prog_7_method_2_code
def yX5_pack : MethodName := ⟨RX5, "pack", "(LPerfectPew$Row;I)V"⟩
abbrev cX5_greatest : ByteArray := prog_7_method_3_code
def yX5_greatest : MethodName := ⟨RX5, "greatest", "(LPerfectPew$Row;I)I"⟩
abbrev cX5_widthFor : ByteArray := prog_7_method_4_code
def yX5_widthFor : MethodName := ⟨RX5, "widthFor", "(I)I"⟩
abbrev cX5_write : ByteArray := prog_7_method_5_code
def yX5_write : MethodName := ⟨RX5, "write", "(IJ)V"⟩
abbrev cX5_join : ByteArray := prog_7_method_6_code
def yX5_join : MethodName := ⟨RX5, "join", "(IJ)V"⟩
abbrev cX5_wordAt : ByteArray := prog_7_method_7_code
def yX5_wordAt : MethodName := ⟨RX5, "wordAt", "(I)J"⟩
def RX6 : String := "PerfectPew$Row"
def TX6 : u_T := fun k => match k with
  | _ => ("PerfectPew$Row", "cells", "[I", true)
def tyX6 : Nat → FieldType := fun k => match k with
  | _ => .array .int
abbrev wsX60 : List Cond := u_ws RX6 TX6 1
theorem nmX6 : ∀ a, a < 1 → ∀ b, b < 1 → a ≠ b → (TX6 a).2.1 ≠ (TX6 b).2.1 := by decide +kernel
theorem tyX6_ok : ∀ k, k < 1 → parseFieldDescriptor (TX6 k).2.2.1 = some (tyX6 k) := by decide +kernel
abbrev cX6_init : ByteArray := prog_8_method_1_code
def yX6_init : MethodName := ⟨RX6, "<init>", "(I)V"⟩
abbrev cX6_get : ByteArray := prog_8_method_2_code
def yX6_get : MethodName := ⟨RX6, "get", "(I)I"⟩
abbrev cX6_set : ByteArray := prog_8_method_3_code
def yX6_set : MethodName := ⟨RX6, "set", "(II)V"⟩
abbrev cX6_fill : ByteArray := prog_8_method_4_code
def yX6_fill : MethodName := ⟨RX6, "fill", "(I)V"⟩
def RX7 : String := "PerfectPew"
def TX7 : u_T := fun k => match k with
  | 0 => ("PerfectPew", "sorted", "LPerfectPew$KeyList;", true)
  | 1 => ("PerfectPew", "displacer", "LPerfectPew$Displacer;", true)
  | 2 => ("PerfectPew", "packer", "LPerfectPew$Packer;", true)
  | 3 => ("PerfectPew", "graph", "LPerfectPew$Graph;", true)
  | 4 => ("PerfectPew", "fingerprints", "LPerfectPew$Row;", true)
  | 5 => ("PerfectPew", "fingerprintMask", "I", false)
  | _ => ("PerfectPew", "built", "Z", false)
def tyX7 : Nat → FieldType := fun k => match k with
  | 0 => .object "PerfectPew$KeyList"
  | 1 => .object "PerfectPew$Displacer"
  | 2 => .object "PerfectPew$Packer"
  | 3 => .object "PerfectPew$Graph"
  | 4 => .object "PerfectPew$Row"
  | 5 => .int
  | _ => .boolean
abbrev wsX70 : List Cond := u_ws RX7 TX7 7
theorem nmX7 : ∀ a, a < 7 → ∀ b, b < 7 → a ≠ b → (TX7 a).2.1 ≠ (TX7 b).2.1 := by decide +kernel
theorem tyX7_ok : ∀ k, k < 7 → parseFieldDescriptor (TX7 k).2.2.1 = some (tyX7 k) := by decide +kernel
abbrev cX7_init : ByteArray := prog_1_method_1_code
def yX7_init : MethodName := ⟨RX7, "<init>", "()V"⟩
abbrev cX7_add : ByteArray := prog_1_method_2_code
def yX7_add : MethodName := ⟨RX7, "add", "(I)I"⟩
abbrev cX7_addLine : ByteArray := prog_1_method_3_code
def yX7_addLine : MethodName := ⟨RX7, "addLine", "(III)I"⟩
abbrev cX7_remove : ByteArray := prog_1_method_4_code
def yX7_remove : MethodName := ⟨RX7, "remove", "(I)I"⟩
abbrev cX7_keys : ByteArray := prog_1_method_5_code
def yX7_keys : MethodName := ⟨RX7, "keys", "()I"⟩
abbrev cX7_has : ByteArray := prog_1_method_6_code
def yX7_has : MethodName := ⟨RX7, "has", "(I)Z"⟩
abbrev cX7_keyAt : ByteArray := prog_1_method_7_code
def yX7_keyAt : MethodName := ⟨RX7, "keyAt", "(I)I"⟩
abbrev cX7_build : ByteArray := prog_1_method_8_code
def yX7_build : MethodName := ⟨RX7, "build", "(II)I"⟩
abbrev cX7_reopen : ByteArray := prog_1_method_9_code
def yX7_reopen : MethodName := ⟨RX7, "reopen", "()V"⟩
abbrev cX7_isBuilt : ByteArray := prog_1_method_10_code
def yX7_isBuilt : MethodName := ⟨RX7, "isBuilt", "()Z"⟩
abbrev cX7_number : ByteArray := prog_1_method_11_code
def yX7_number : MethodName := ⟨RX7, "number", "(I)I"⟩
abbrev cX7_find : ByteArray := prog_1_method_12_code
def yX7_find : MethodName := ⟨RX7, "find", "(I)I"⟩
abbrev cX7_strangers : ByteArray := prog_1_method_13_code
def yX7_strangers : MethodName := ⟨RX7, "strangers", "(II)I"⟩
abbrev cX7_keyOf : ByteArray := prog_1_method_14_code
def yX7_keyOf : MethodName := ⟨RX7, "keyOf", "(I)I"⟩
abbrev cX7_fingerprint : ByteArray := prog_1_method_15_code
def yX7_fingerprint : MethodName := ⟨RX7, "fingerprint", "(I)I"⟩
abbrev cX7_seed : ByteArray := prog_1_method_16_code
def yX7_seed : MethodName := ⟨RX7, "seed", "()I"⟩
abbrev cX7_buckets : ByteArray := prog_1_method_17_code
def yX7_buckets : MethodName := ⟨RX7, "buckets", "()I"⟩
abbrev cX7_inBucket : ByteArray := prog_1_method_18_code
def yX7_inBucket : MethodName := ⟨RX7, "inBucket", "(I)I"⟩
abbrev cX7_displacement : ByteArray := prog_1_method_19_code
def yX7_displacement : MethodName := ⟨RX7, "displacement", "(I)I"⟩
abbrev cX7_width : ByteArray := prog_1_method_20_code
def yX7_width : MethodName := ⟨RX7, "width", "()I"⟩
abbrev cX7_word : ByteArray := prog_1_method_21_code
def yX7_word : MethodName := ⟨RX7, "word", "(I)J"⟩
abbrev cX7_byGraph : ByteArray := prog_1_method_22_code
def yX7_byGraph : MethodName := ⟨RX7, "byGraph", "(I)I"⟩
abbrev cX7_graphSeed : ByteArray := prog_1_method_23_code
def yX7_graphSeed : MethodName := ⟨RX7, "graphSeed", "()I"⟩
abbrev cX7_valueOf : ByteArray := prog_1_method_24_code
def yX7_valueOf : MethodName := ⟨RX7, "valueOf", "(I)I"⟩
abbrev cX7_requireKey : ByteArray := prog_1_method_25_code
def yX7_requireKey : MethodName := ⟨RX7, "requireKey", "(I)V"⟩
abbrev cX7_requireLine : ByteArray := prog_1_method_26_code
def yX7_requireLine : MethodName := ⟨RX7, "requireLine", "(III)V"⟩
abbrev cX7_requireBelow : ByteArray := prog_1_method_27_code
def yX7_requireBelow : MethodName := ⟨RX7, "requireBelow", "(II)V"⟩
abbrev cX7_requireRoomFor : ByteArray := prog_1_method_28_code
def yX7_requireRoomFor : MethodName := ⟨RX7, "requireRoomFor", "(I)V"⟩
abbrev cX7_requireOpen : ByteArray := prog_1_method_29_code
def yX7_requireOpen : MethodName := ⟨RX7, "requireOpen", "()V"⟩
abbrev cX7_requireBuilt : ByteArray := prog_1_method_30_code
def yX7_requireBuilt : MethodName := ⟨RX7, "requireBuilt", "()V"⟩
abbrev cX7_newInLine : ByteArray := prog_1_method_31_code
def yX7_newInLine : MethodName := ⟨RX7, "newInLine", "(III)I"⟩
abbrev cX7_keepFingerprints : ByteArray := prog_1_method_32_code
def yX7_keepFingerprints : MethodName := ⟨RX7, "keepFingerprints", "(I)V"⟩
abbrev cX7_fingerprintOf : ByteArray := prog_1_method_33_code
def yX7_fingerprintOf : MethodName := ⟨RX7, "fingerprintOf", "(I)I"⟩
abbrev cX7_keyWithNumber : ByteArray := prog_1_method_34_code
def yX7_keyWithNumber : MethodName := ⟨RX7, "keyWithNumber", "(I)I"⟩
abbrev cX7_lookUp : ByteArray := prog_1_method_35_code
def yX7_lookUp : MethodName := ⟨RX7, "lookUp", "(I)I"⟩
abbrev cX7_remainder : ByteArray := prog_1_method_36_code
def yX7_remainder : MethodName := ⟨RX7, "remainder", "(II)I"⟩
abbrev cX7_dividedUp : ByteArray := prog_1_method_37_code
def yX7_dividedUp : MethodName := ⟨RX7, "dividedUp", "(II)I"⟩
def RX8 : String := "PerfectPewModel"
def TX8 : u_T := fun k => match k with
  | 0 => ("PerfectPewModel", "keys", "[I", true)
  | 1 => ("PerfectPewModel", "many", "I", false)
  | 2 => ("PerfectPewModel", "built", "Z", false)
  | 3 => ("PerfectPewModel", "seed", "I", false)
  | 4 => ("PerfectPewModel", "graphSeed", "I", false)
  | 5 => ("PerfectPewModel", "bits", "I", false)
  | 6 => ("PerfectPewModel", "bucketMany", "I", false)
  | 7 => ("PerfectPewModel", "width", "I", false)
  | 8 => ("PerfectPewModel", "sizes", "[I", true)
  | 9 => ("PerfectPewModel", "shift", "[I", true)
  | 10 => ("PerfectPewModel", "owner", "[I", true)
  | 11 => ("PerfectPewModel", "prints", "[I", true)
  | 12 => ("PerfectPewModel", "some", "[I", true)
  | 13 => ("PerfectPewModel", "triedShift", "[I", true)
  | 14 => ("PerfectPewModel", "triedOwner", "[I", true)
  | 15 => ("PerfectPewModel", "words", "[J", true)
  | 16 => ("PerfectPewModel", "values", "[I", true)
  | 17 => ("PerfectPewModel", "roots", "[I", true)
  | 18 => ("PerfectPewModel", "ends", "[I", true)
  | _ => ("PerfectPewModel", "thrown", "I", false)
def tyX8 : Nat → FieldType := fun k => match k with
  | 0 => .array .int
  | 1 => .int
  | 2 => .boolean
  | 3 => .int
  | 4 => .int
  | 5 => .int
  | 6 => .int
  | 7 => .int
  | 8 => .array .int
  | 9 => .array .int
  | 10 => .array .int
  | 11 => .array .int
  | 12 => .array .int
  | 13 => .array .int
  | 14 => .array .int
  | 15 => .array .long
  | 16 => .array .int
  | 17 => .array .int
  | 18 => .array .int
  | _ => .int
abbrev wsX80 : List Cond := u_ws RX8 TX8 20
theorem nmX8 : ∀ a, a < 20 → ∀ b, b < 20 → a ≠ b → (TX8 a).2.1 ≠ (TX8 b).2.1 := by decide +kernel
theorem tyX8_ok : ∀ k, k < 20 → parseFieldDescriptor (TX8 k).2.2.1 = some (tyX8 k) := by decide +kernel
abbrev cX8_init : ByteArray := prog_10_method_1_code
def yX8_init : MethodName := ⟨RX8, "<init>", "()V"⟩
abbrev cX8_thrown : ByteArray := prog_10_method_2_code
def yX8_thrown : MethodName := ⟨RX8, "thrown", "()I"⟩
abbrev cX8_fails : ByteArray := prog_10_method_3_code
def yX8_fails : MethodName := ⟨RX8, "fails", "(I)I"⟩
abbrev cX8_in : ByteArray := prog_10_method_4_code
def yX8_in : MethodName := ⟨RX8, "in", "(III)Z"⟩
abbrev cX8_first : ByteArray := prog_10_method_5_code
def yX8_first : MethodName := ⟨RX8, "first", "(I)J"⟩
abbrev cX8_second : ByteArray := prog_10_method_6_code
def yX8_second : MethodName := ⟨RX8, "second", "(I)J"⟩
abbrev cX8_third : ByteArray := prog_10_method_7_code
def yX8_third : MethodName := ⟨RX8, "third", "(I)J"⟩
abbrev cX8_hash : ByteArray := prog_10_method_8_code
def yX8_hash : MethodName := ⟨RX8, "hash", "(III)I"⟩
abbrev cX8_below : ByteArray := prog_10_method_9_code
def yX8_below : MethodName := ⟨RX8, "below", "(I)I"⟩
abbrev cX8_is : ByteArray := prog_10_method_10_code
def yX8_is : MethodName := ⟨RX8, "is", "(I)Z"⟩
abbrev cX8_put : ByteArray := prog_10_method_11_code
def yX8_put : MethodName := ⟨RX8, "put", "(I)V"⟩
abbrev cX8_add : ByteArray := prog_10_method_12_code
def yX8_add : MethodName := ⟨RX8, "add", "(I)I"⟩
abbrev cX8_addLine : ByteArray := prog_10_method_13_code
def yX8_addLine : MethodName := ⟨RX8, "addLine", "(III)I"⟩
abbrev cX8_remove : ByteArray := prog_10_method_14_code
def yX8_remove : MethodName := ⟨RX8, "remove", "(I)I"⟩
abbrev cX8_keys : ByteArray := prog_10_method_15_code
def yX8_keys : MethodName := ⟨RX8, "keys", "()I"⟩
abbrev cX8_has : ByteArray := prog_10_method_16_code
def yX8_has : MethodName := ⟨RX8, "has", "(I)Z"⟩
abbrev cX8_keyAt : ByteArray := prog_10_method_17_code
def yX8_keyAt : MethodName := ⟨RX8, "keyAt", "(I)I"⟩
abbrev cX8_stepOf : ByteArray := prog_10_method_18_code
def yX8_stepOf : MethodName := ⟨RX8, "stepOf", "(III)I"⟩
abbrev cX8_place : ByteArray := prog_10_method_19_code
def yX8_place : MethodName := ⟨RX8, "place", "(IIII)I"⟩
abbrev cX8_gather : ByteArray := prog_10_method_20_code
def yX8_gather : MethodName := ⟨RX8, "gather", "(III)I"⟩
abbrev cX8_goes : ByteArray := prog_10_method_21_code
def yX8_goes : MethodName := ⟨RX8, "goes", "(III)Z"⟩
abbrev cX8_lays : ByteArray := prog_10_method_22_code
def yX8_lays : MethodName := ⟨RX8, "lays", "(III)Z"⟩
abbrev cX8_displaces : ByteArray := prog_10_method_23_code
def yX8_displaces : MethodName := ⟨RX8, "displaces", "(II)Z"⟩
abbrev cX8_root : ByteArray := prog_10_method_24_code
def yX8_root : MethodName := ⟨RX8, "root", "(I)I"⟩
abbrev cX8_hasNoCircle : ByteArray := prog_10_method_25_code
def yX8_hasNoCircle : MethodName := ⟨RX8, "hasNoCircle", "(I)Z"⟩
abbrev cX8_layValues : ByteArray := prog_10_method_26_code
def yX8_layValues : MethodName := ⟨RX8, "layValues", "()V"⟩
abbrev cX8_pack : ByteArray := prog_10_method_27_code
def yX8_pack : MethodName := ⟨RX8, "pack", "()V"⟩
abbrev cX8_build : ByteArray := prog_10_method_28_code
def yX8_build : MethodName := ⟨RX8, "build", "(II)I"⟩
abbrev cX8_print : ByteArray := prog_10_method_29_code
def yX8_print : MethodName := ⟨RX8, "print", "(I)I"⟩
abbrev cX8_reopen : ByteArray := prog_10_method_30_code
def yX8_reopen : MethodName := ⟨RX8, "reopen", "()V"⟩
abbrev cX8_isBuilt : ByteArray := prog_10_method_31_code
def yX8_isBuilt : MethodName := ⟨RX8, "isBuilt", "()Z"⟩
abbrev cX8_numberOf : ByteArray := prog_10_method_32_code
def yX8_numberOf : MethodName := ⟨RX8, "numberOf", "(I)I"⟩
abbrev cX8_found : ByteArray := prog_10_method_33_code
def yX8_found : MethodName := ⟨RX8, "found", "(I)I"⟩
abbrev cX8_number : ByteArray := prog_10_method_34_code
def yX8_number : MethodName := ⟨RX8, "number", "(I)I"⟩
abbrev cX8_find : ByteArray := prog_10_method_35_code
def yX8_find : MethodName := ⟨RX8, "find", "(I)I"⟩
abbrev cX8_strangers : ByteArray := prog_10_method_36_code
def yX8_strangers : MethodName := ⟨RX8, "strangers", "(II)I"⟩
abbrev cX8_told : ByteArray := prog_10_method_37_code
def yX8_told : MethodName := ⟨RX8, "told", "(ZI)I"⟩
abbrev cX8_keyOf : ByteArray := prog_10_method_38_code
def yX8_keyOf : MethodName := ⟨RX8, "keyOf", "(I)I"⟩
abbrev cX8_fingerprint : ByteArray := prog_10_method_39_code
def yX8_fingerprint : MethodName := ⟨RX8, "fingerprint", "(I)I"⟩
abbrev cX8_seed : ByteArray := prog_10_method_40_code
def yX8_seed : MethodName := ⟨RX8, "seed", "()I"⟩
abbrev cX8_buckets : ByteArray := prog_10_method_41_code
def yX8_buckets : MethodName := ⟨RX8, "buckets", "()I"⟩
abbrev cX8_inBucket : ByteArray := prog_10_method_42_code
def yX8_inBucket : MethodName := ⟨RX8, "inBucket", "(I)I"⟩
abbrev cX8_displacement : ByteArray := prog_10_method_43_code
def yX8_displacement : MethodName := ⟨RX8, "displacement", "(I)I"⟩
abbrev cX8_width : ByteArray := prog_10_method_44_code
def yX8_width : MethodName := ⟨RX8, "width", "()I"⟩
abbrev cX8_word : ByteArray := prog_10_method_45_code
def yX8_word : MethodName := ⟨RX8, "word", "(I)J"⟩
abbrev cX8_byGraph : ByteArray := prog_10_method_46_code
def yX8_byGraph : MethodName := ⟨RX8, "byGraph", "(I)I"⟩
abbrev cX8_graphSeed : ByteArray := prog_10_method_47_code
def yX8_graphSeed : MethodName := ⟨RX8, "graphSeed", "()I"⟩
abbrev cX8_valueOf : ByteArray := prog_10_method_48_code
def yX8_valueOf : MethodName := ⟨RX8, "valueOf", "(I)I"⟩
def RJx145de : String := "java/io/Serializable"
def TJx145de : u_T := fun k => match k with
  | _ => ("", "", "", false)
def tyJx145de : Nat → FieldType := fun k => match k with
  | _ => .int
abbrev wsJx145de0 : List Cond := u_ws RJx145de TJx145de 0
theorem nmJx145de : ∀ a, a < 0 → ∀ b, b < 0 → a ≠ b → (TJx145de a).2.1 ≠ (TJx145de b).2.1 := by decide +kernel
theorem tyJx145de_ok : ∀ k, k < 0 → parseFieldDescriptor (TJx145de k).2.2.1 = some (tyJx145de k) := by decide +kernel
def RJx29ce0 : String := "java/lang/Enum"
def TJx29ce0 : u_T := fun k => match k with
  | _ => ("", "", "", false)
def tyJx29ce0 : Nat → FieldType := fun k => match k with
  | _ => .int
abbrev wsJx29ce00 : List Cond := u_ws RJx29ce0 TJx29ce0 0
theorem nmJx29ce0 : ∀ a, a < 0 → ∀ b, b < 0 → a ≠ b → (TJx29ce0 a).2.1 ≠ (TJx29ce0 b).2.1 := by decide +kernel
theorem tyJx29ce0_ok : ∀ k, k < 0 → parseFieldDescriptor (TJx29ce0 k).2.2.1 = some (tyJx29ce0 k) := by decide +kernel
def RJ9 : String := "java/lang/Math"
def TJ9 : u_T := fun k => match k with
  | _ => ("", "", "", false)
def tyJ9 : Nat → FieldType := fun k => match k with
  | _ => .int
abbrev wsJ90 : List Cond := u_ws RJ9 TJ9 0
theorem nmJ9 : ∀ a, a < 0 → ∀ b, b < 0 → a ≠ b → (TJ9 a).2.1 ≠ (TJ9 b).2.1 := by decide +kernel
theorem tyJ9_ok : ∀ k, k < 0 → parseFieldDescriptor (TJ9 k).2.2.1 = some (tyJ9 k) := by decide +kernel
abbrev cJ9_max_7cf53 : ByteArray := prog_16_method_65_code
def yJ9_max_7cf53 : MethodName := ⟨RJ9, "max", "(II)I"⟩
abbrev cJ9_min_7cf53 : ByteArray := prog_16_method_69_code
def yJ9_min_7cf53 : MethodName := ⟨RJ9, "min", "(II)I"⟩
def RJ0 : String := "java/lang/String"
def TJ0 : u_T := fun k => match k with
  | _ => ("", "", "", false)
def tyJ0 : Nat → FieldType := fun k => match k with
  | _ => .int
abbrev wsJ00 : List Cond := u_ws RJ0 TJ0 0
theorem nmJ0 : ∀ a, a < 0 → ∀ b, b < 0 → a ≠ b → (TJ0 a).2.1 ≠ (TJ0 b).2.1 := by decide +kernel
theorem tyJ0_ok : ∀ k, k < 0 → parseFieldDescriptor (TJ0 k).2.2.1 = some (tyJ0 k) := by decide +kernel
def RJ7 : String := "java/util/Arrays"
def TJ7 : u_T := fun k => match k with
  | _ => ("", "", "", false)
def tyJ7 : Nat → FieldType := fun k => match k with
  | _ => .int
abbrev wsJ70 : List Cond := u_ws RJ7 TJ7 0
theorem nmJ7 : ∀ a, a < 0 → ∀ b, b < 0 → a ≠ b → (TJ7 a).2.1 ≠ (TJ7 b).2.1 := by decide +kernel
theorem tyJ7_ok : ∀ k, k < 0 → parseFieldDescriptor (TJ7 k).2.2.1 = some (tyJ7 k) := by decide +kernel
abbrev cJ7_fill_d0a16 : ByteArray := prog_20_method_101_code
def yJ7_fill_d0a16 : MethodName := ⟨RJ7, "fill", "([JJ)V"⟩
abbrev cJ7_fill_53178 : ByteArray := prog_20_method_103_code
def yJ7_fill_53178 : MethodName := ⟨RJ7, "fill", "([II)V"⟩
def RL : String := "PerfectPewLaw"
abbrev cL_add : ByteArray := method_3_code
def yL_add : MethodName := ⟨RL, "add", "(LPerfectPew;I[J)I"⟩
abbrev cL_addLine : ByteArray := method_4_code
def yL_addLine : MethodName := ⟨RL, "addLine", "(LPerfectPew;III[J)I"⟩
abbrev cL_remove : ByteArray := method_5_code
def yL_remove : MethodName := ⟨RL, "remove", "(LPerfectPew;I[J)I"⟩
abbrev cL_has : ByteArray := method_6_code
def yL_has : MethodName := ⟨RL, "has", "(LPerfectPew;I[J)I"⟩
abbrev cL_keyAt : ByteArray := method_7_code
def yL_keyAt : MethodName := ⟨RL, "keyAt", "(LPerfectPew;I[J)I"⟩
abbrev cL_build : ByteArray := method_8_code
def yL_build : MethodName := ⟨RL, "build", "(LPerfectPew;II[J)I"⟩
abbrev cL_reopen : ByteArray := method_9_code
def yL_reopen : MethodName := ⟨RL, "reopen", "(LPerfectPew;)I"⟩
abbrev cL_number : ByteArray := method_10_code
def yL_number : MethodName := ⟨RL, "number", "(LPerfectPew;I[J)I"⟩
abbrev cL_find : ByteArray := method_11_code
def yL_find : MethodName := ⟨RL, "find", "(LPerfectPew;I[J)I"⟩
abbrev cL_strangers : ByteArray := method_12_code
def yL_strangers : MethodName := ⟨RL, "strangers", "(LPerfectPew;II[J)I"⟩
abbrev cL_keyOf : ByteArray := method_13_code
def yL_keyOf : MethodName := ⟨RL, "keyOf", "(LPerfectPew;I[J)I"⟩
abbrev cL_fingerprint : ByteArray := method_14_code
def yL_fingerprint : MethodName := ⟨RL, "fingerprint", "(LPerfectPew;I[J)I"⟩
abbrev cL_seed : ByteArray := method_15_code
def yL_seed : MethodName := ⟨RL, "seed", "(LPerfectPew;[J)I"⟩
abbrev cL_buckets : ByteArray := method_16_code
def yL_buckets : MethodName := ⟨RL, "buckets", "(LPerfectPew;[J)I"⟩
abbrev cL_inBucket : ByteArray := method_17_code
def yL_inBucket : MethodName := ⟨RL, "inBucket", "(LPerfectPew;I[J)I"⟩
abbrev cL_displacement : ByteArray := method_18_code
def yL_displacement : MethodName := ⟨RL, "displacement", "(LPerfectPew;I[J)I"⟩
abbrev cL_width : ByteArray := method_19_code
def yL_width : MethodName := ⟨RL, "width", "(LPerfectPew;[J)I"⟩
abbrev cL_word : ByteArray := method_20_code
def yL_word : MethodName := ⟨RL, "word", "(LPerfectPew;I[J)I"⟩
abbrev cL_byGraph : ByteArray := method_21_code
def yL_byGraph : MethodName := ⟨RL, "byGraph", "(LPerfectPew;I[J)I"⟩
abbrev cL_graphSeed : ByteArray := method_22_code
def yL_graphSeed : MethodName := ⟨RL, "graphSeed", "(LPerfectPew;[J)I"⟩
abbrev cL_valueOf : ByteArray := method_23_code
def yL_valueOf : MethodName := ⟨RL, "valueOf", "(LPerfectPew;I[J)I"⟩
abbrev cL_law : ByteArray := code
def yL_law : MethodName := ⟨RL, "law", "([I)Z"⟩
def wsX6_init : List Cond := .code yX6_init cX6_init 2 none :: ([.methodLink RX6 1 objectInit, .instanceMethod objectInit, .code objectInit ⟨#[0xb1]⟩ 1 none, .methodLink RX6 7 Lib.Math.max.name, .static Lib.Math.max.name, .initialized "java/lang/Math", .code Lib.Math.max.name Lib.Math.max.code 2 (some .int), .arrayClass .int, .fieldLink RX6 13 "PerfectPew$Row" "cells" "[I"] ++ wsX60)
def wsX2_init : List Cond := .code yX2_init cX2_init 3 none :: ([.methodLink RX2 1 objectInit, .instanceMethod objectInit, .code objectInit ⟨#[0xb1]⟩ 1 none, .classLink RX2 7 RX6, .instantiable RX6 1, .initialized RX6, .fieldLink RX2 12 "PerfectPew$Groups" "groups" "LPerfectPew$Row;", .fieldLink RX2 18 "PerfectPew$Groups" "begins" "LPerfectPew$Row;", .fieldLink RX2 21 "PerfectPew$Groups" "members" "LPerfectPew$Row;", .instanceMethod yX6_init, .code yX6_init cX6_init 2 none, .methodLink RX6 1 objectInit, .methodLink RX6 7 Lib.Math.max.name, .static Lib.Math.max.name, .initialized "java/lang/Math", .code Lib.Math.max.name Lib.Math.max.code 2 (some .int), .arrayClass .int, .fieldLink RX6 13 "PerfectPew$Row" "cells" "[I"] ++ wsX60 ++ wsX20)
def wsX0_init_r1 : List Cond := [Cond.methodLink RX0 3 objectInit, Cond.instanceMethod objectInit, Cond.code objectInit ⟨#[0xb1]⟩ 1 none, Cond.classLink RX0 9 RX2, Cond.instantiable RX2 5, Cond.initialized RX2, Cond.fieldLink RX0 14 "PerfectPew$Displacer" "ranksByBucket" "LPerfectPew$Groups;", Cond.classLink RX0 20 RX6, Cond.instantiable RX6 1, Cond.initialized RX6, Cond.fieldLink RX0 25 "PerfectPew$Displacer" "starts" "LPerfectPew$Row;", Cond.fieldLink RX0 29 "PerfectPew$Displacer" "steps" "LPerfectPew$Row;", Cond.fieldLink RX0 32 "PerfectPew$Displacer" "numbers" "LPerfectPew$Row;", Cond.fieldLink RX0 35 "PerfectPew$Displacer" "displacements" "LPerfectPew$Row;", Cond.fieldLink RX0 38 "PerfectPew$Displacer" "ranksByNumber" "LPerfectPew$Row;", Cond.instanceMethod yX2_init, Cond.code yX2_init cX2_init 3 none, Cond.methodLink RX2 1 objectInit, Cond.classLink RX2 7 RX6, Cond.fieldLink RX2 12 "PerfectPew$Groups" "groups" "LPerfectPew$Row;", Cond.fieldLink RX2 18 "PerfectPew$Groups" "begins" "LPerfectPew$Row;", Cond.fieldLink RX2 21 "PerfectPew$Groups" "members" "LPerfectPew$Row;", Cond.instanceMethod yX6_init, Cond.code yX6_init cX6_init 2 none]
def wsX0_init_r2 : List Cond := [Cond.methodLink RX6 1 objectInit, Cond.methodLink RX6 7 Lib.Math.max.name, Cond.static Lib.Math.max.name, Cond.initialized "java/lang/Math", Cond.code Lib.Math.max.name Lib.Math.max.code 2 (some .int), Cond.arrayClass .int, Cond.fieldLink RX6 13 "PerfectPew$Row" "cells" "[I"]
def wsX0_init : List Cond := .code yX0_init cX0_init 1 none :: ((wsX0_init_r1 ++ wsX0_init_r2) ++ wsX20 ++ wsX00 ++ wsX60)
def wsX7_dividedUp : List Cond := .code yX7_dividedUp cX7_dividedUp 2 (some .int) :: ([])
def wsJ7_fill_53178 : List Cond := .code yJ7_fill_53178 cJ7_fill_53178 4 none :: ([])
def wsX6_fill : List Cond := .code yX6_fill cX6_fill 2 none :: ([.fieldLink RX6 13 "PerfectPew$Row" "cells" "[I", .methodLink RX6 19 yJ7_fill_53178, .static yJ7_fill_53178, .initialized RJ7, .code yJ7_fill_53178 cJ7_fill_53178 4 none] ++ wsX60)
def wsX2_restart : List Cond := .code yX2_restart cX2_restart 3 none :: ([.fieldLink RX2 24 "PerfectPew$Groups" "thingCount" "I", .fieldLink RX2 28 "PerfectPew$Groups" "groupCount" "I", .fieldLink RX2 18 "PerfectPew$Groups" "begins" "LPerfectPew$Row;", .instanceMethod yX6_fill, .initialized RX6, .selects RX6 yX6_fill yX6_fill, .code yX6_fill cX6_fill 2 none, .fieldLink RX6 13 "PerfectPew$Row" "cells" "[I", .methodLink RX6 19 yJ7_fill_53178, .static yJ7_fill_53178, .initialized RJ7, .code yJ7_fill_53178 cJ7_fill_53178 4 none] ++ wsX20 ++ wsX60)
def wsX6_get : List Cond := .code yX6_get cX6_get 2 (some .int) :: ([.fieldLink RX6 13 "PerfectPew$Row" "cells" "[I"] ++ wsX60)
def wsX4_at : List Cond := .code yX4_at cX4_at 2 (some .int) :: ([.fieldLink RX4 14 "PerfectPew$KeyList" "places" "LPerfectPew$Row;", .instanceMethod yX6_get, .initialized RX6, .selects RX6 yX6_get yX6_get, .code yX6_get cX6_get 2 (some .int), .fieldLink RX6 13 "PerfectPew$Row" "cells" "[I"] ++ wsX40 ++ wsX60)
def wsX3_of : List Cond := .code yX3_of cX3_of 3 (some .int) :: ([.fieldLink RX3 43 "PerfectPew$Hash" "perKey" "J", .fieldLink RX3 47 "PerfectPew$Hash" "perSeed" "J", .fieldLink RX3 50 "PerfectPew$Hash" "more" "J", .constantLong RX3 53 (1000003)])
def wsX7_remainder : List Cond := .code yX7_remainder cX7_remainder 2 (some .int) :: ([])
def wsX0_bucketOf : List Cond := .code yX0_bucketOf cX0_bucketOf 2 (some .int) :: ([.fieldLink RX0 146 "PerfectPew$Hash" "BUCKET" "LPerfectPew$Hash;", .fieldLink RX0 57 "PerfectPew$Displacer" "seed" "I", .fieldLink RX0 54 "PerfectPew$Displacer" "bucketCount" "I", .instanceMethod yX3_of, .initialized RX3, .selects RX3 yX3_of yX3_of, .code yX3_of cX3_of 3 (some .int), .fieldLink RX3 43 "PerfectPew$Hash" "perKey" "J", .fieldLink RX3 47 "PerfectPew$Hash" "perSeed" "J", .fieldLink RX3 50 "PerfectPew$Hash" "more" "J", .constantLong RX3 53 (1000003), .static yX7_remainder, .initialized RX7, .code yX7_remainder cX7_remainder 2 (some .int)] ++ wsX00)
def wsX6_set : List Cond := .code yX6_set cX6_set 3 none :: ([.fieldLink RX6 13 "PerfectPew$Row" "cells" "[I"] ++ wsX60)
def wsX2_assign : List Cond := .code yX2_assign cX2_assign 3 none :: ([.fieldLink RX2 12 "PerfectPew$Groups" "groups" "LPerfectPew$Row;", .fieldLink RX2 18 "PerfectPew$Groups" "begins" "LPerfectPew$Row;", .instanceMethod yX6_set, .initialized RX6, .selects RX6 yX6_set yX6_set, .code yX6_set cX6_set 3 none, .fieldLink RX6 13 "PerfectPew$Row" "cells" "[I", .instanceMethod yX6_get, .selects RX6 yX6_get yX6_get, .code yX6_get cX6_get 2 (some .int)] ++ wsX20 ++ wsX60)
def wsX0_stepOf : List Cond := .code yX0_stepOf cX0_stepOf 2 (some .int) :: ([.fieldLink RX0 47 "PerfectPew$Displacer" "keyCount" "I", .fieldLink RX0 149 "PerfectPew$Hash" "STEP" "LPerfectPew$Hash;", .fieldLink RX0 57 "PerfectPew$Displacer" "seed" "I", .instanceMethod yX3_of, .initialized RX3, .selects RX3 yX3_of yX3_of, .code yX3_of cX3_of 3 (some .int), .fieldLink RX3 43 "PerfectPew$Hash" "perKey" "J", .fieldLink RX3 47 "PerfectPew$Hash" "perSeed" "J", .fieldLink RX3 50 "PerfectPew$Hash" "more" "J", .constantLong RX3 53 (1000003), .static yX7_remainder, .initialized RX7, .code yX7_remainder cX7_remainder 2 (some .int)] ++ wsX00)
def wsX2_arrange : List Cond := .code yX2_arrange cX2_arrange 5 none :: ([.fieldLink RX2 28 "PerfectPew$Groups" "groupCount" "I", .fieldLink RX2 18 "PerfectPew$Groups" "begins" "LPerfectPew$Row;", .fieldLink RX2 24 "PerfectPew$Groups" "thingCount" "I", .fieldLink RX2 12 "PerfectPew$Groups" "groups" "LPerfectPew$Row;", .fieldLink RX2 21 "PerfectPew$Groups" "members" "LPerfectPew$Row;", .instanceMethod yX6_get, .initialized RX6, .selects RX6 yX6_get yX6_get, .code yX6_get cX6_get 2 (some .int), .fieldLink RX6 13 "PerfectPew$Row" "cells" "[I", .instanceMethod yX6_set, .selects RX6 yX6_set yX6_set, .code yX6_set cX6_set 3 none] ++ wsX20 ++ wsX60)
def wsX0_hashKeys_r1 : List Cond := [Cond.fieldLink RX0 14 "PerfectPew$Displacer" "ranksByBucket" "LPerfectPew$Groups;", Cond.fieldLink RX0 47 "PerfectPew$Displacer" "keyCount" "I", Cond.fieldLink RX0 54 "PerfectPew$Displacer" "bucketCount" "I", Cond.fieldLink RX0 25 "PerfectPew$Displacer" "starts" "LPerfectPew$Row;", Cond.fieldLink RX0 81 "PerfectPew$Hash" "START" "LPerfectPew$Hash;", Cond.fieldLink RX0 57 "PerfectPew$Displacer" "seed" "I", Cond.fieldLink RX0 29 "PerfectPew$Displacer" "steps" "LPerfectPew$Row;", Cond.instanceMethod yX2_restart, Cond.initialized RX2, Cond.selects RX2 yX2_restart yX2_restart, Cond.code yX2_restart cX2_restart 3 none, Cond.fieldLink RX2 24 "PerfectPew$Groups" "thingCount" "I", Cond.fieldLink RX2 28 "PerfectPew$Groups" "groupCount" "I", Cond.fieldLink RX2 18 "PerfectPew$Groups" "begins" "LPerfectPew$Row;", Cond.instanceMethod yX6_fill, Cond.initialized RX6, Cond.selects RX6 yX6_fill yX6_fill, Cond.code yX6_fill cX6_fill 2 none, Cond.fieldLink RX6 13 "PerfectPew$Row" "cells" "[I", Cond.methodLink RX6 19 yJ7_fill_53178, Cond.static yJ7_fill_53178, Cond.initialized RJ7, Cond.code yJ7_fill_53178 cJ7_fill_53178 4 none, Cond.instanceMethod yX4_at]
def wsX0_hashKeys_r2 : List Cond := [Cond.initialized RX4, Cond.selects RX4 yX4_at yX4_at, Cond.code yX4_at cX4_at 2 (some .int), Cond.fieldLink RX4 14 "PerfectPew$KeyList" "places" "LPerfectPew$Row;", Cond.instanceMethod yX6_get, Cond.selects RX6 yX6_get yX6_get, Cond.code yX6_get cX6_get 2 (some .int), Cond.methodLink RX0 75 yX0_bucketOf, Cond.instanceMethod yX0_bucketOf, Cond.selects RX0 yX0_bucketOf yX0_bucketOf, Cond.initialized RX0, Cond.code yX0_bucketOf cX0_bucketOf 2 (some .int), Cond.fieldLink RX0 146 "PerfectPew$Hash" "BUCKET" "LPerfectPew$Hash;", Cond.instanceMethod yX3_of, Cond.initialized RX3, Cond.selects RX3 yX3_of yX3_of, Cond.code yX3_of cX3_of 3 (some .int), Cond.fieldLink RX3 43 "PerfectPew$Hash" "perKey" "J", Cond.fieldLink RX3 47 "PerfectPew$Hash" "perSeed" "J", Cond.fieldLink RX3 50 "PerfectPew$Hash" "more" "J", Cond.constantLong RX3 53 (1000003), Cond.static yX7_remainder, Cond.initialized RX7, Cond.code yX7_remainder cX7_remainder 2 (some .int)]
def wsX0_hashKeys_r3 : List Cond := [Cond.instanceMethod yX2_assign, Cond.selects RX2 yX2_assign yX2_assign, Cond.code yX2_assign cX2_assign 3 none, Cond.fieldLink RX2 12 "PerfectPew$Groups" "groups" "LPerfectPew$Row;", Cond.instanceMethod yX6_set, Cond.selects RX6 yX6_set yX6_set, Cond.code yX6_set cX6_set 3 none, Cond.methodLink RX0 93 yX0_stepOf, Cond.instanceMethod yX0_stepOf, Cond.selects RX0 yX0_stepOf yX0_stepOf, Cond.code yX0_stepOf cX0_stepOf 2 (some .int), Cond.fieldLink RX0 149 "PerfectPew$Hash" "STEP" "LPerfectPew$Hash;", Cond.instanceMethod yX2_arrange, Cond.selects RX2 yX2_arrange yX2_arrange, Cond.code yX2_arrange cX2_arrange 5 none, Cond.fieldLink RX2 21 "PerfectPew$Groups" "members" "LPerfectPew$Row;"]
def wsX0_hashKeys : List Cond := .code yX0_hashKeys cX0_hashKeys 4 none :: ((wsX0_hashKeys_r1 ++ (wsX0_hashKeys_r2 ++ wsX0_hashKeys_r3)) ++ wsX00 ++ wsX20 ++ wsX60 ++ wsX40)
def wsX2_endOf : List Cond := .code yX2_endOf cX2_endOf 2 (some .int) :: ([.fieldLink RX2 18 "PerfectPew$Groups" "begins" "LPerfectPew$Row;", .instanceMethod yX6_get, .initialized RX6, .selects RX6 yX6_get yX6_get, .code yX6_get cX6_get 2 (some .int), .fieldLink RX6 13 "PerfectPew$Row" "cells" "[I"] ++ wsX20 ++ wsX60)
def wsX2_beginOf : List Cond := .code yX2_beginOf cX2_beginOf 2 (some .int) :: ([.fieldLink RX2 18 "PerfectPew$Groups" "begins" "LPerfectPew$Row;", .instanceMethod yX6_get, .initialized RX6, .selects RX6 yX6_get yX6_get, .code yX6_get cX6_get 2 (some .int), .fieldLink RX6 13 "PerfectPew$Row" "cells" "[I"] ++ wsX20 ++ wsX60)
def wsX2_sizeOf : List Cond := .code yX2_sizeOf cX2_sizeOf 2 (some .int) :: ([.methodLink RX2 42 yX2_endOf, .instanceMethod yX2_endOf, .selects RX2 yX2_endOf yX2_endOf, .initialized RX2, .code yX2_endOf cX2_endOf 2 (some .int), .fieldLink RX2 18 "PerfectPew$Groups" "begins" "LPerfectPew$Row;", .instanceMethod yX6_get, .initialized RX6, .selects RX6 yX6_get yX6_get, .code yX6_get cX6_get 2 (some .int), .fieldLink RX6 13 "PerfectPew$Row" "cells" "[I", .methodLink RX2 45 yX2_beginOf, .instanceMethod yX2_beginOf, .selects RX2 yX2_beginOf yX2_beginOf, .code yX2_beginOf cX2_beginOf 2 (some .int)] ++ wsX20 ++ wsX60)
def wsX0_largestBucket : List Cond := .code yX0_largestBucket cX0_largestBucket 3 (some .int) :: ([.fieldLink RX0 54 "PerfectPew$Displacer" "bucketCount" "I", .fieldLink RX0 14 "PerfectPew$Displacer" "ranksByBucket" "LPerfectPew$Groups;", .methodLink RX0 113 Lib.Math.max.name, .static Lib.Math.max.name, .initialized "java/lang/Math", .code Lib.Math.max.name Lib.Math.max.code 2 (some .int), .instanceMethod yX2_sizeOf, .initialized RX2, .selects RX2 yX2_sizeOf yX2_sizeOf, .code yX2_sizeOf cX2_sizeOf 2 (some .int), .methodLink RX2 42 yX2_endOf, .instanceMethod yX2_endOf, .selects RX2 yX2_endOf yX2_endOf, .code yX2_endOf cX2_endOf 2 (some .int), .fieldLink RX2 18 "PerfectPew$Groups" "begins" "LPerfectPew$Row;", .instanceMethod yX6_get, .initialized RX6, .selects RX6 yX6_get yX6_get, .code yX6_get cX6_get 2 (some .int), .fieldLink RX6 13 "PerfectPew$Row" "cells" "[I", .methodLink RX2 45 yX2_beginOf, .instanceMethod yX2_beginOf, .selects RX2 yX2_beginOf yX2_beginOf, .code yX2_beginOf cX2_beginOf 2 (some .int)] ++ wsX00 ++ wsX20 ++ wsX60)
def wsX2_memberAt : List Cond := .code yX2_memberAt cX2_memberAt 2 (some .int) :: ([.fieldLink RX2 21 "PerfectPew$Groups" "members" "LPerfectPew$Row;", .instanceMethod yX6_get, .initialized RX6, .selects RX6 yX6_get yX6_get, .code yX6_get cX6_get 2 (some .int), .fieldLink RX6 13 "PerfectPew$Row" "cells" "[I"] ++ wsX20 ++ wsX60)
def wsX0_numberWith : List Cond := .code yX0_numberWith cX0_numberWith 3 (some .int) :: ([.fieldLink RX0 25 "PerfectPew$Displacer" "starts" "LPerfectPew$Row;", .fieldLink RX0 29 "PerfectPew$Displacer" "steps" "LPerfectPew$Row;", .fieldLink RX0 47 "PerfectPew$Displacer" "keyCount" "I", .instanceMethod yX6_get, .initialized RX6, .selects RX6 yX6_get yX6_get, .code yX6_get cX6_get 2 (some .int), .fieldLink RX6 13 "PerfectPew$Row" "cells" "[I", .static yX7_remainder, .initialized RX7, .code yX7_remainder cX7_remainder 2 (some .int)] ++ wsX00 ++ wsX60)
def wsX0_takeBack : List Cond := .code yX0_takeBack cX0_takeBack 5 none :: ([.fieldLink RX0 14 "PerfectPew$Displacer" "ranksByBucket" "LPerfectPew$Groups;", .fieldLink RX0 38 "PerfectPew$Displacer" "ranksByNumber" "LPerfectPew$Row;", .fieldLink RX0 32 "PerfectPew$Displacer" "numbers" "LPerfectPew$Row;", .instanceMethod yX2_memberAt, .initialized RX2, .selects RX2 yX2_memberAt yX2_memberAt, .code yX2_memberAt cX2_memberAt 2 (some .int), .fieldLink RX2 21 "PerfectPew$Groups" "members" "LPerfectPew$Row;", .instanceMethod yX6_get, .initialized RX6, .selects RX6 yX6_get yX6_get, .code yX6_get cX6_get 2 (some .int), .fieldLink RX6 13 "PerfectPew$Row" "cells" "[I", .instanceMethod yX6_set, .selects RX6 yX6_set yX6_set, .code yX6_set cX6_set 3 none] ++ wsX00 ++ wsX20 ++ wsX60)
def wsX0_place_r1 : List Cond := [Cond.fieldLink RX0 14 "PerfectPew$Displacer" "ranksByBucket" "LPerfectPew$Groups;", Cond.fieldLink RX0 38 "PerfectPew$Displacer" "ranksByNumber" "LPerfectPew$Row;", Cond.fieldLink RX0 32 "PerfectPew$Displacer" "numbers" "LPerfectPew$Row;", Cond.instanceMethod yX2_beginOf, Cond.initialized RX2, Cond.selects RX2 yX2_beginOf yX2_beginOf, Cond.code yX2_beginOf cX2_beginOf 2 (some .int), Cond.fieldLink RX2 18 "PerfectPew$Groups" "begins" "LPerfectPew$Row;", Cond.instanceMethod yX6_get, Cond.initialized RX6, Cond.selects RX6 yX6_get yX6_get, Cond.code yX6_get cX6_get 2 (some .int), Cond.fieldLink RX6 13 "PerfectPew$Row" "cells" "[I", Cond.instanceMethod yX2_endOf, Cond.selects RX2 yX2_endOf yX2_endOf, Cond.code yX2_endOf cX2_endOf 2 (some .int), Cond.instanceMethod yX2_memberAt, Cond.selects RX2 yX2_memberAt yX2_memberAt, Cond.code yX2_memberAt cX2_memberAt 2 (some .int), Cond.fieldLink RX2 21 "PerfectPew$Groups" "members" "LPerfectPew$Row;", Cond.methodLink RX0 134 yX0_numberWith, Cond.instanceMethod yX0_numberWith, Cond.selects RX0 yX0_numberWith yX0_numberWith, Cond.initialized RX0]
def wsX0_place_r2 : List Cond := [Cond.code yX0_numberWith cX0_numberWith 3 (some .int), Cond.fieldLink RX0 25 "PerfectPew$Displacer" "starts" "LPerfectPew$Row;", Cond.fieldLink RX0 29 "PerfectPew$Displacer" "steps" "LPerfectPew$Row;", Cond.fieldLink RX0 47 "PerfectPew$Displacer" "keyCount" "I", Cond.static yX7_remainder, Cond.initialized RX7, Cond.code yX7_remainder cX7_remainder 2 (some .int), Cond.methodLink RX0 140 yX0_takeBack, Cond.instanceMethod yX0_takeBack, Cond.selects RX0 yX0_takeBack yX0_takeBack, Cond.code yX0_takeBack cX0_takeBack 5 none, Cond.instanceMethod yX6_set, Cond.selects RX6 yX6_set yX6_set, Cond.code yX6_set cX6_set 3 none]
def wsX0_place : List Cond := .code yX0_place cX0_place 8 (some .boolean) :: ((wsX0_place_r1 ++ wsX0_place_r2) ++ wsX00 ++ wsX20 ++ wsX60)
def wsX0_displace_r1 : List Cond := [Cond.fieldLink RX0 47 "PerfectPew$Displacer" "keyCount" "I", Cond.methodLink RX0 118 Lib.Math.min.name, Cond.static Lib.Math.min.name, Cond.initialized "java/lang/Math", Cond.code Lib.Math.min.name Lib.Math.min.code 2 (some .int), Cond.fieldLink RX0 35 "PerfectPew$Displacer" "displacements" "LPerfectPew$Row;", Cond.methodLink RX0 121 yX0_place, Cond.instanceMethod yX0_place, Cond.selects RX0 yX0_place yX0_place, Cond.initialized RX0, Cond.code yX0_place cX0_place 8 (some .boolean), Cond.fieldLink RX0 14 "PerfectPew$Displacer" "ranksByBucket" "LPerfectPew$Groups;", Cond.fieldLink RX0 38 "PerfectPew$Displacer" "ranksByNumber" "LPerfectPew$Row;", Cond.fieldLink RX0 32 "PerfectPew$Displacer" "numbers" "LPerfectPew$Row;", Cond.instanceMethod yX2_beginOf, Cond.initialized RX2, Cond.selects RX2 yX2_beginOf yX2_beginOf, Cond.code yX2_beginOf cX2_beginOf 2 (some .int), Cond.fieldLink RX2 18 "PerfectPew$Groups" "begins" "LPerfectPew$Row;", Cond.instanceMethod yX6_get, Cond.initialized RX6, Cond.selects RX6 yX6_get yX6_get, Cond.code yX6_get cX6_get 2 (some .int), Cond.fieldLink RX6 13 "PerfectPew$Row" "cells" "[I"]
def wsX0_displace_r2 : List Cond := [Cond.instanceMethod yX2_endOf, Cond.selects RX2 yX2_endOf yX2_endOf, Cond.code yX2_endOf cX2_endOf 2 (some .int), Cond.instanceMethod yX2_memberAt, Cond.selects RX2 yX2_memberAt yX2_memberAt, Cond.code yX2_memberAt cX2_memberAt 2 (some .int), Cond.fieldLink RX2 21 "PerfectPew$Groups" "members" "LPerfectPew$Row;", Cond.methodLink RX0 134 yX0_numberWith, Cond.instanceMethod yX0_numberWith, Cond.selects RX0 yX0_numberWith yX0_numberWith, Cond.code yX0_numberWith cX0_numberWith 3 (some .int), Cond.fieldLink RX0 25 "PerfectPew$Displacer" "starts" "LPerfectPew$Row;", Cond.fieldLink RX0 29 "PerfectPew$Displacer" "steps" "LPerfectPew$Row;", Cond.static yX7_remainder, Cond.initialized RX7, Cond.code yX7_remainder cX7_remainder 2 (some .int), Cond.methodLink RX0 140 yX0_takeBack, Cond.instanceMethod yX0_takeBack, Cond.selects RX0 yX0_takeBack yX0_takeBack, Cond.code yX0_takeBack cX0_takeBack 5 none, Cond.instanceMethod yX6_set, Cond.selects RX6 yX6_set yX6_set, Cond.code yX6_set cX6_set 3 none]
def wsX0_displace : List Cond := .code yX0_displace cX0_displace 4 (some .boolean) :: ((wsX0_displace_r1 ++ wsX0_displace_r2) ++ wsX00 ++ wsX20 ++ wsX60)
def wsX0_displaceAll_r1 : List Cond := [Cond.fieldLink RX0 35 "PerfectPew$Displacer" "displacements" "LPerfectPew$Row;", Cond.fieldLink RX0 38 "PerfectPew$Displacer" "ranksByNumber" "LPerfectPew$Row;", Cond.fieldLink RX0 54 "PerfectPew$Displacer" "bucketCount" "I", Cond.fieldLink RX0 14 "PerfectPew$Displacer" "ranksByBucket" "LPerfectPew$Groups;", Cond.instanceMethod yX6_fill, Cond.initialized RX6, Cond.selects RX6 yX6_fill yX6_fill, Cond.code yX6_fill cX6_fill 2 none, Cond.fieldLink RX6 13 "PerfectPew$Row" "cells" "[I", Cond.methodLink RX6 19 yJ7_fill_53178, Cond.static yJ7_fill_53178, Cond.initialized RJ7, Cond.code yJ7_fill_53178 cJ7_fill_53178 4 none, Cond.methodLink RX0 102 yX0_largestBucket, Cond.instanceMethod yX0_largestBucket, Cond.selects RX0 yX0_largestBucket yX0_largestBucket, Cond.initialized RX0, Cond.code yX0_largestBucket cX0_largestBucket 3 (some .int), Cond.methodLink RX0 113 Lib.Math.max.name, Cond.static Lib.Math.max.name, Cond.initialized "java/lang/Math", Cond.code Lib.Math.max.name Lib.Math.max.code 2 (some .int), Cond.instanceMethod yX2_sizeOf, Cond.initialized RX2]
def wsX0_displaceAll_r2 : List Cond := [Cond.selects RX2 yX2_sizeOf yX2_sizeOf, Cond.code yX2_sizeOf cX2_sizeOf 2 (some .int), Cond.methodLink RX2 42 yX2_endOf, Cond.instanceMethod yX2_endOf, Cond.selects RX2 yX2_endOf yX2_endOf, Cond.code yX2_endOf cX2_endOf 2 (some .int), Cond.fieldLink RX2 18 "PerfectPew$Groups" "begins" "LPerfectPew$Row;", Cond.instanceMethod yX6_get, Cond.selects RX6 yX6_get yX6_get, Cond.code yX6_get cX6_get 2 (some .int), Cond.methodLink RX2 45 yX2_beginOf, Cond.instanceMethod yX2_beginOf, Cond.selects RX2 yX2_beginOf yX2_beginOf, Cond.code yX2_beginOf cX2_beginOf 2 (some .int), Cond.methodLink RX0 109 yX0_displace, Cond.instanceMethod yX0_displace, Cond.selects RX0 yX0_displace yX0_displace, Cond.code yX0_displace cX0_displace 4 (some .boolean), Cond.fieldLink RX0 47 "PerfectPew$Displacer" "keyCount" "I", Cond.methodLink RX0 118 Lib.Math.min.name, Cond.static Lib.Math.min.name, Cond.code Lib.Math.min.name Lib.Math.min.code 2 (some .int), Cond.methodLink RX0 121 yX0_place, Cond.instanceMethod yX0_place]
def wsX0_displaceAll_r3 : List Cond := [Cond.selects RX0 yX0_place yX0_place, Cond.code yX0_place cX0_place 8 (some .boolean), Cond.fieldLink RX0 32 "PerfectPew$Displacer" "numbers" "LPerfectPew$Row;", Cond.instanceMethod yX2_memberAt, Cond.selects RX2 yX2_memberAt yX2_memberAt, Cond.code yX2_memberAt cX2_memberAt 2 (some .int), Cond.fieldLink RX2 21 "PerfectPew$Groups" "members" "LPerfectPew$Row;", Cond.methodLink RX0 134 yX0_numberWith, Cond.instanceMethod yX0_numberWith, Cond.selects RX0 yX0_numberWith yX0_numberWith, Cond.code yX0_numberWith cX0_numberWith 3 (some .int), Cond.fieldLink RX0 25 "PerfectPew$Displacer" "starts" "LPerfectPew$Row;", Cond.fieldLink RX0 29 "PerfectPew$Displacer" "steps" "LPerfectPew$Row;", Cond.static yX7_remainder, Cond.initialized RX7, Cond.code yX7_remainder cX7_remainder 2 (some .int), Cond.methodLink RX0 140 yX0_takeBack, Cond.instanceMethod yX0_takeBack, Cond.selects RX0 yX0_takeBack yX0_takeBack, Cond.code yX0_takeBack cX0_takeBack 5 none, Cond.instanceMethod yX6_set, Cond.selects RX6 yX6_set yX6_set, Cond.code yX6_set cX6_set 3 none]
def wsX0_displaceAll : List Cond := .code yX0_displaceAll cX0_displaceAll 3 (some .boolean) :: ((wsX0_displaceAll_r1 ++ (wsX0_displaceAll_r2 ++ wsX0_displaceAll_r3)) ++ wsX00 ++ wsX60 ++ wsX20)
def wsX0_settle_r1 : List Cond := [Cond.fieldLink RX0 47 "PerfectPew$Displacer" "keyCount" "I", Cond.fieldLink RX0 54 "PerfectPew$Displacer" "bucketCount" "I", Cond.fieldLink RX0 57 "PerfectPew$Displacer" "seed" "I", Cond.static yX7_dividedUp, Cond.initialized RX7, Cond.code yX7_dividedUp cX7_dividedUp 2 (some .int), Cond.methodLink RX0 60 yX0_hashKeys, Cond.instanceMethod yX0_hashKeys, Cond.selects RX0 yX0_hashKeys yX0_hashKeys, Cond.initialized RX0, Cond.code yX0_hashKeys cX0_hashKeys 4 none, Cond.fieldLink RX0 14 "PerfectPew$Displacer" "ranksByBucket" "LPerfectPew$Groups;", Cond.fieldLink RX0 25 "PerfectPew$Displacer" "starts" "LPerfectPew$Row;", Cond.fieldLink RX0 81 "PerfectPew$Hash" "START" "LPerfectPew$Hash;", Cond.fieldLink RX0 29 "PerfectPew$Displacer" "steps" "LPerfectPew$Row;", Cond.instanceMethod yX2_restart, Cond.initialized RX2, Cond.selects RX2 yX2_restart yX2_restart, Cond.code yX2_restart cX2_restart 3 none, Cond.fieldLink RX2 24 "PerfectPew$Groups" "thingCount" "I", Cond.fieldLink RX2 28 "PerfectPew$Groups" "groupCount" "I", Cond.fieldLink RX2 18 "PerfectPew$Groups" "begins" "LPerfectPew$Row;", Cond.instanceMethod yX6_fill, Cond.initialized RX6]
def wsX0_settle_r2 : List Cond := [Cond.selects RX6 yX6_fill yX6_fill, Cond.code yX6_fill cX6_fill 2 none, Cond.fieldLink RX6 13 "PerfectPew$Row" "cells" "[I", Cond.methodLink RX6 19 yJ7_fill_53178, Cond.static yJ7_fill_53178, Cond.initialized RJ7, Cond.code yJ7_fill_53178 cJ7_fill_53178 4 none, Cond.instanceMethod yX4_at, Cond.initialized RX4, Cond.selects RX4 yX4_at yX4_at, Cond.code yX4_at cX4_at 2 (some .int), Cond.fieldLink RX4 14 "PerfectPew$KeyList" "places" "LPerfectPew$Row;", Cond.instanceMethod yX6_get, Cond.selects RX6 yX6_get yX6_get, Cond.code yX6_get cX6_get 2 (some .int), Cond.methodLink RX0 75 yX0_bucketOf, Cond.instanceMethod yX0_bucketOf, Cond.selects RX0 yX0_bucketOf yX0_bucketOf, Cond.code yX0_bucketOf cX0_bucketOf 2 (some .int), Cond.fieldLink RX0 146 "PerfectPew$Hash" "BUCKET" "LPerfectPew$Hash;", Cond.instanceMethod yX3_of, Cond.initialized RX3, Cond.selects RX3 yX3_of yX3_of, Cond.code yX3_of cX3_of 3 (some .int)]
def wsX0_settle_r3 : List Cond := [Cond.fieldLink RX3 43 "PerfectPew$Hash" "perKey" "J", Cond.fieldLink RX3 47 "PerfectPew$Hash" "perSeed" "J", Cond.fieldLink RX3 50 "PerfectPew$Hash" "more" "J", Cond.constantLong RX3 53 (1000003), Cond.static yX7_remainder, Cond.code yX7_remainder cX7_remainder 2 (some .int), Cond.instanceMethod yX2_assign, Cond.selects RX2 yX2_assign yX2_assign, Cond.code yX2_assign cX2_assign 3 none, Cond.fieldLink RX2 12 "PerfectPew$Groups" "groups" "LPerfectPew$Row;", Cond.instanceMethod yX6_set, Cond.selects RX6 yX6_set yX6_set, Cond.code yX6_set cX6_set 3 none, Cond.methodLink RX0 93 yX0_stepOf, Cond.instanceMethod yX0_stepOf, Cond.selects RX0 yX0_stepOf yX0_stepOf, Cond.code yX0_stepOf cX0_stepOf 2 (some .int), Cond.fieldLink RX0 149 "PerfectPew$Hash" "STEP" "LPerfectPew$Hash;", Cond.instanceMethod yX2_arrange, Cond.selects RX2 yX2_arrange yX2_arrange, Cond.code yX2_arrange cX2_arrange 5 none, Cond.fieldLink RX2 21 "PerfectPew$Groups" "members" "LPerfectPew$Row;", Cond.methodLink RX0 64 yX0_displaceAll, Cond.instanceMethod yX0_displaceAll]
def wsX0_settle_r4 : List Cond := [Cond.selects RX0 yX0_displaceAll yX0_displaceAll, Cond.code yX0_displaceAll cX0_displaceAll 3 (some .boolean), Cond.fieldLink RX0 35 "PerfectPew$Displacer" "displacements" "LPerfectPew$Row;", Cond.fieldLink RX0 38 "PerfectPew$Displacer" "ranksByNumber" "LPerfectPew$Row;", Cond.methodLink RX0 102 yX0_largestBucket, Cond.instanceMethod yX0_largestBucket, Cond.selects RX0 yX0_largestBucket yX0_largestBucket, Cond.code yX0_largestBucket cX0_largestBucket 3 (some .int), Cond.methodLink RX0 113 Lib.Math.max.name, Cond.static Lib.Math.max.name, Cond.initialized "java/lang/Math", Cond.code Lib.Math.max.name Lib.Math.max.code 2 (some .int), Cond.instanceMethod yX2_sizeOf, Cond.selects RX2 yX2_sizeOf yX2_sizeOf, Cond.code yX2_sizeOf cX2_sizeOf 2 (some .int), Cond.methodLink RX2 42 yX2_endOf, Cond.instanceMethod yX2_endOf, Cond.selects RX2 yX2_endOf yX2_endOf, Cond.code yX2_endOf cX2_endOf 2 (some .int), Cond.methodLink RX2 45 yX2_beginOf, Cond.instanceMethod yX2_beginOf, Cond.selects RX2 yX2_beginOf yX2_beginOf, Cond.code yX2_beginOf cX2_beginOf 2 (some .int), Cond.methodLink RX0 109 yX0_displace]
def wsX0_settle_r5 : List Cond := [Cond.instanceMethod yX0_displace, Cond.selects RX0 yX0_displace yX0_displace, Cond.code yX0_displace cX0_displace 4 (some .boolean), Cond.methodLink RX0 118 Lib.Math.min.name, Cond.static Lib.Math.min.name, Cond.code Lib.Math.min.name Lib.Math.min.code 2 (some .int), Cond.methodLink RX0 121 yX0_place, Cond.instanceMethod yX0_place, Cond.selects RX0 yX0_place yX0_place, Cond.code yX0_place cX0_place 8 (some .boolean), Cond.fieldLink RX0 32 "PerfectPew$Displacer" "numbers" "LPerfectPew$Row;", Cond.instanceMethod yX2_memberAt, Cond.selects RX2 yX2_memberAt yX2_memberAt, Cond.code yX2_memberAt cX2_memberAt 2 (some .int), Cond.methodLink RX0 134 yX0_numberWith, Cond.instanceMethod yX0_numberWith, Cond.selects RX0 yX0_numberWith yX0_numberWith, Cond.code yX0_numberWith cX0_numberWith 3 (some .int), Cond.methodLink RX0 140 yX0_takeBack, Cond.instanceMethod yX0_takeBack, Cond.selects RX0 yX0_takeBack yX0_takeBack, Cond.code yX0_takeBack cX0_takeBack 5 none]
def wsX0_settle : List Cond := .code yX0_settle cX0_settle 4 (some .boolean) :: ((wsX0_settle_r1 ++ (wsX0_settle_r2 ++ (wsX0_settle_r3 ++ (wsX0_settle_r4 ++ wsX0_settle_r5)))) ++ wsX40 ++ wsX00 ++ wsX20 ++ wsX60)
def wsX0_numberOf_r1 : List Cond := [Cond.fieldLink RX0 35 "PerfectPew$Displacer" "displacements" "LPerfectPew$Row;", Cond.fieldLink RX0 81 "PerfectPew$Hash" "START" "LPerfectPew$Hash;", Cond.fieldLink RX0 57 "PerfectPew$Displacer" "seed" "I", Cond.fieldLink RX0 47 "PerfectPew$Displacer" "keyCount" "I", Cond.methodLink RX0 75 yX0_bucketOf, Cond.instanceMethod yX0_bucketOf, Cond.selects RX0 yX0_bucketOf yX0_bucketOf, Cond.initialized RX0, Cond.code yX0_bucketOf cX0_bucketOf 2 (some .int), Cond.fieldLink RX0 146 "PerfectPew$Hash" "BUCKET" "LPerfectPew$Hash;", Cond.fieldLink RX0 54 "PerfectPew$Displacer" "bucketCount" "I", Cond.instanceMethod yX3_of, Cond.initialized RX3, Cond.selects RX3 yX3_of yX3_of, Cond.code yX3_of cX3_of 3 (some .int), Cond.fieldLink RX3 43 "PerfectPew$Hash" "perKey" "J", Cond.fieldLink RX3 47 "PerfectPew$Hash" "perSeed" "J", Cond.fieldLink RX3 50 "PerfectPew$Hash" "more" "J", Cond.constantLong RX3 53 (1000003), Cond.static yX7_remainder, Cond.initialized RX7, Cond.code yX7_remainder cX7_remainder 2 (some .int), Cond.instanceMethod yX6_get, Cond.initialized RX6]
def wsX0_numberOf_r2 : List Cond := [Cond.selects RX6 yX6_get yX6_get, Cond.code yX6_get cX6_get 2 (some .int), Cond.fieldLink RX6 13 "PerfectPew$Row" "cells" "[I", Cond.methodLink RX0 93 yX0_stepOf, Cond.instanceMethod yX0_stepOf, Cond.selects RX0 yX0_stepOf yX0_stepOf, Cond.code yX0_stepOf cX0_stepOf 2 (some .int), Cond.fieldLink RX0 149 "PerfectPew$Hash" "STEP" "LPerfectPew$Hash;"]
def wsX0_numberOf : List Cond := .code yX0_numberOf cX0_numberOf 3 (some .int) :: ((wsX0_numberOf_r1 ++ wsX0_numberOf_r2) ++ wsX00 ++ wsX60)
def wsX1_init_r1 : List Cond := [Cond.methodLink RX1 3 objectInit, Cond.instanceMethod objectInit, Cond.code objectInit ⟨#[0xb1]⟩ 1 none, Cond.classLink RX1 9 RX2, Cond.instantiable RX2 5, Cond.initialized RX2, Cond.fieldLink RX1 14 "PerfectPew$Graph" "ends" "LPerfectPew$Groups;", Cond.classLink RX1 20 RX6, Cond.instantiable RX6 1, Cond.initialized RX6, Cond.fieldLink RX1 25 "PerfectPew$Graph" "walked" "LPerfectPew$Row;", Cond.fieldLink RX1 29 "PerfectPew$Graph" "values" "LPerfectPew$Row;", Cond.fieldLink RX1 32 "PerfectPew$Graph" "reached" "LPerfectPew$Row;", Cond.instanceMethod yX2_init, Cond.code yX2_init cX2_init 3 none, Cond.methodLink RX2 1 objectInit, Cond.classLink RX2 7 RX6, Cond.fieldLink RX2 12 "PerfectPew$Groups" "groups" "LPerfectPew$Row;", Cond.fieldLink RX2 18 "PerfectPew$Groups" "begins" "LPerfectPew$Row;", Cond.fieldLink RX2 21 "PerfectPew$Groups" "members" "LPerfectPew$Row;", Cond.instanceMethod yX6_init, Cond.code yX6_init cX6_init 2 none, Cond.methodLink RX6 1 objectInit, Cond.methodLink RX6 7 Lib.Math.max.name]
def wsX1_init_r2 : List Cond := [Cond.static Lib.Math.max.name, Cond.initialized "java/lang/Math", Cond.code Lib.Math.max.name Lib.Math.max.code 2 (some .int), Cond.arrayClass .int, Cond.fieldLink RX6 13 "PerfectPew$Row" "cells" "[I"]
def wsX1_init : List Cond := .code yX1_init cX1_init 1 none :: ((wsX1_init_r1 ++ wsX1_init_r2) ++ wsX20 ++ wsX10 ++ wsX60)
def wsX1_vertexOf : List Cond := .code yX1_vertexOf cX1_vertexOf 3 (some .int) :: ([.fieldLink RX1 47 "PerfectPew$Graph" "seed" "I", .fieldLink RX1 44 "PerfectPew$Graph" "vertexCount" "I", .instanceMethod yX3_of, .initialized RX3, .selects RX3 yX3_of yX3_of, .code yX3_of cX3_of 3 (some .int), .fieldLink RX3 43 "PerfectPew$Hash" "perKey" "J", .fieldLink RX3 47 "PerfectPew$Hash" "perSeed" "J", .fieldLink RX3 50 "PerfectPew$Hash" "more" "J", .constantLong RX3 53 (1000003), .static yX7_remainder, .initialized RX7, .code yX7_remainder cX7_remainder 2 (some .int)] ++ wsX10)
def wsX1_layEdges_r1 : List Cond := [Cond.fieldLink RX1 14 "PerfectPew$Graph" "ends" "LPerfectPew$Groups;", Cond.fieldLink RX1 41 "PerfectPew$Graph" "keyCount" "I", Cond.fieldLink RX1 44 "PerfectPew$Graph" "vertexCount" "I", Cond.fieldLink RX1 65 "PerfectPew$Hash" "ONE_END" "LPerfectPew$Hash;", Cond.fieldLink RX1 78 "PerfectPew$Hash" "OTHER_END" "LPerfectPew$Hash;", Cond.instanceMethod yX2_restart, Cond.initialized RX2, Cond.selects RX2 yX2_restart yX2_restart, Cond.code yX2_restart cX2_restart 3 none, Cond.fieldLink RX2 24 "PerfectPew$Groups" "thingCount" "I", Cond.fieldLink RX2 28 "PerfectPew$Groups" "groupCount" "I", Cond.fieldLink RX2 18 "PerfectPew$Groups" "begins" "LPerfectPew$Row;", Cond.instanceMethod yX6_fill, Cond.initialized RX6, Cond.selects RX6 yX6_fill yX6_fill, Cond.code yX6_fill cX6_fill 2 none, Cond.fieldLink RX6 13 "PerfectPew$Row" "cells" "[I", Cond.methodLink RX6 19 yJ7_fill_53178, Cond.static yJ7_fill_53178, Cond.initialized RJ7, Cond.code yJ7_fill_53178 cJ7_fill_53178 4 none, Cond.instanceMethod yX4_at, Cond.initialized RX4, Cond.selects RX4 yX4_at yX4_at]
def wsX1_layEdges_r2 : List Cond := [Cond.code yX4_at cX4_at 2 (some .int), Cond.fieldLink RX4 14 "PerfectPew$KeyList" "places" "LPerfectPew$Row;", Cond.instanceMethod yX6_get, Cond.selects RX6 yX6_get yX6_get, Cond.code yX6_get cX6_get 2 (some .int), Cond.methodLink RX1 71 yX1_vertexOf, Cond.instanceMethod yX1_vertexOf, Cond.selects RX1 yX1_vertexOf yX1_vertexOf, Cond.initialized RX1, Cond.code yX1_vertexOf cX1_vertexOf 3 (some .int), Cond.fieldLink RX1 47 "PerfectPew$Graph" "seed" "I", Cond.instanceMethod yX3_of, Cond.initialized RX3, Cond.selects RX3 yX3_of yX3_of, Cond.code yX3_of cX3_of 3 (some .int), Cond.fieldLink RX3 43 "PerfectPew$Hash" "perKey" "J", Cond.fieldLink RX3 47 "PerfectPew$Hash" "perSeed" "J", Cond.fieldLink RX3 50 "PerfectPew$Hash" "more" "J", Cond.constantLong RX3 53 (1000003), Cond.static yX7_remainder, Cond.initialized RX7, Cond.code yX7_remainder cX7_remainder 2 (some .int), Cond.instanceMethod yX2_assign, Cond.selects RX2 yX2_assign yX2_assign]
def wsX1_layEdges_r3 : List Cond := [Cond.code yX2_assign cX2_assign 3 none, Cond.fieldLink RX2 12 "PerfectPew$Groups" "groups" "LPerfectPew$Row;", Cond.instanceMethod yX6_set, Cond.selects RX6 yX6_set yX6_set, Cond.code yX6_set cX6_set 3 none, Cond.instanceMethod yX2_arrange, Cond.selects RX2 yX2_arrange yX2_arrange, Cond.code yX2_arrange cX2_arrange 5 none, Cond.fieldLink RX2 21 "PerfectPew$Groups" "members" "LPerfectPew$Row;"]
def wsX1_layEdges : List Cond := .code yX1_layEdges cX1_layEdges 4 none :: ((wsX1_layEdges_r1 ++ (wsX1_layEdges_r2 ++ wsX1_layEdges_r3)) ++ wsX10 ++ wsX20 ++ wsX60 ++ wsX40)
def wsX1_reach : List Cond := .code yX1_reach cX1_reach 3 none :: ([.fieldLink RX1 29 "PerfectPew$Graph" "values" "LPerfectPew$Row;", .fieldLink RX1 32 "PerfectPew$Graph" "reached" "LPerfectPew$Row;", .fieldLink RX1 94 "PerfectPew$Graph" "reachedCount" "I", .instanceMethod yX6_set, .initialized RX6, .selects RX6 yX6_set yX6_set, .code yX6_set cX6_set 3 none, .fieldLink RX6 13 "PerfectPew$Row" "cells" "[I"] ++ wsX10 ++ wsX60)
def wsX2_groupOf : List Cond := .code yX2_groupOf cX2_groupOf 2 (some .int) :: ([.fieldLink RX2 12 "PerfectPew$Groups" "groups" "LPerfectPew$Row;", .instanceMethod yX6_get, .initialized RX6, .selects RX6 yX6_get yX6_get, .code yX6_get cX6_get 2 (some .int), .fieldLink RX6 13 "PerfectPew$Row" "cells" "[I"] ++ wsX20 ++ wsX60)
def wsX1_walkOn_r1 : List Cond := [Cond.fieldLink RX1 14 "PerfectPew$Graph" "ends" "LPerfectPew$Groups;", Cond.fieldLink RX1 25 "PerfectPew$Graph" "walked" "LPerfectPew$Row;", Cond.fieldLink RX1 29 "PerfectPew$Graph" "values" "LPerfectPew$Row;", Cond.fieldLink RX1 41 "PerfectPew$Graph" "keyCount" "I", Cond.instanceMethod yX2_beginOf, Cond.initialized RX2, Cond.selects RX2 yX2_beginOf yX2_beginOf, Cond.code yX2_beginOf cX2_beginOf 2 (some .int), Cond.fieldLink RX2 18 "PerfectPew$Groups" "begins" "LPerfectPew$Row;", Cond.instanceMethod yX6_get, Cond.initialized RX6, Cond.selects RX6 yX6_get yX6_get, Cond.code yX6_get cX6_get 2 (some .int), Cond.fieldLink RX6 13 "PerfectPew$Row" "cells" "[I", Cond.instanceMethod yX2_endOf, Cond.selects RX2 yX2_endOf yX2_endOf, Cond.code yX2_endOf cX2_endOf 2 (some .int), Cond.instanceMethod yX2_memberAt, Cond.selects RX2 yX2_memberAt yX2_memberAt, Cond.code yX2_memberAt cX2_memberAt 2 (some .int), Cond.fieldLink RX2 21 "PerfectPew$Groups" "members" "LPerfectPew$Row;", Cond.instanceMethod yX6_set, Cond.selects RX6 yX6_set yX6_set, Cond.code yX6_set cX6_set 3 none]
def wsX1_walkOn_r2 : List Cond := [Cond.instanceMethod yX2_groupOf, Cond.selects RX2 yX2_groupOf yX2_groupOf, Cond.code yX2_groupOf cX2_groupOf 2 (some .int), Cond.fieldLink RX2 12 "PerfectPew$Groups" "groups" "LPerfectPew$Row;", Cond.static yX7_remainder, Cond.initialized RX7, Cond.code yX7_remainder cX7_remainder 2 (some .int), Cond.methodLink RX1 97 yX1_reach, Cond.instanceMethod yX1_reach, Cond.selects RX1 yX1_reach yX1_reach, Cond.initialized RX1, Cond.code yX1_reach cX1_reach 3 none, Cond.fieldLink RX1 32 "PerfectPew$Graph" "reached" "LPerfectPew$Row;", Cond.fieldLink RX1 94 "PerfectPew$Graph" "reachedCount" "I"]
def wsX1_walkOn : List Cond := .code yX1_walkOn cX1_walkOn 6 (some .boolean) :: ((wsX1_walkOn_r1 ++ wsX1_walkOn_r2) ++ wsX10 ++ wsX20 ++ wsX60)
def wsX1_walkFrom_r1 : List Cond := [Cond.fieldLink RX1 94 "PerfectPew$Graph" "reachedCount" "I", Cond.fieldLink RX1 44 "PerfectPew$Graph" "vertexCount" "I", Cond.fieldLink RX1 32 "PerfectPew$Graph" "reached" "LPerfectPew$Row;", Cond.methodLink RX1 97 yX1_reach, Cond.instanceMethod yX1_reach, Cond.selects RX1 yX1_reach yX1_reach, Cond.initialized RX1, Cond.code yX1_reach cX1_reach 3 none, Cond.fieldLink RX1 29 "PerfectPew$Graph" "values" "LPerfectPew$Row;", Cond.instanceMethod yX6_set, Cond.initialized RX6, Cond.selects RX6 yX6_set yX6_set, Cond.code yX6_set cX6_set 3 none, Cond.fieldLink RX6 13 "PerfectPew$Row" "cells" "[I", Cond.instanceMethod yX6_get, Cond.selects RX6 yX6_get yX6_get, Cond.code yX6_get cX6_get 2 (some .int), Cond.methodLink RX1 100 yX1_walkOn, Cond.instanceMethod yX1_walkOn, Cond.selects RX1 yX1_walkOn yX1_walkOn, Cond.code yX1_walkOn cX1_walkOn 6 (some .boolean), Cond.fieldLink RX1 14 "PerfectPew$Graph" "ends" "LPerfectPew$Groups;", Cond.fieldLink RX1 25 "PerfectPew$Graph" "walked" "LPerfectPew$Row;", Cond.fieldLink RX1 41 "PerfectPew$Graph" "keyCount" "I"]
def wsX1_walkFrom_r2 : List Cond := [Cond.instanceMethod yX2_beginOf, Cond.initialized RX2, Cond.selects RX2 yX2_beginOf yX2_beginOf, Cond.code yX2_beginOf cX2_beginOf 2 (some .int), Cond.fieldLink RX2 18 "PerfectPew$Groups" "begins" "LPerfectPew$Row;", Cond.instanceMethod yX2_endOf, Cond.selects RX2 yX2_endOf yX2_endOf, Cond.code yX2_endOf cX2_endOf 2 (some .int), Cond.instanceMethod yX2_memberAt, Cond.selects RX2 yX2_memberAt yX2_memberAt, Cond.code yX2_memberAt cX2_memberAt 2 (some .int), Cond.fieldLink RX2 21 "PerfectPew$Groups" "members" "LPerfectPew$Row;", Cond.instanceMethod yX2_groupOf, Cond.selects RX2 yX2_groupOf yX2_groupOf, Cond.code yX2_groupOf cX2_groupOf 2 (some .int), Cond.fieldLink RX2 12 "PerfectPew$Groups" "groups" "LPerfectPew$Row;", Cond.static yX7_remainder, Cond.initialized RX7, Cond.code yX7_remainder cX7_remainder 2 (some .int)]
def wsX1_walkFrom : List Cond := .code yX1_walkFrom cX1_walkFrom 3 (some .boolean) :: ((wsX1_walkFrom_r1 ++ wsX1_walkFrom_r2) ++ wsX10 ++ wsX60 ++ wsX20)
def wsX1_giveValues_r1 : List Cond := [Cond.fieldLink RX1 29 "PerfectPew$Graph" "values" "LPerfectPew$Row;", Cond.fieldLink RX1 25 "PerfectPew$Graph" "walked" "LPerfectPew$Row;", Cond.fieldLink RX1 44 "PerfectPew$Graph" "vertexCount" "I", Cond.instanceMethod yX6_fill, Cond.initialized RX6, Cond.selects RX6 yX6_fill yX6_fill, Cond.code yX6_fill cX6_fill 2 none, Cond.fieldLink RX6 13 "PerfectPew$Row" "cells" "[I", Cond.methodLink RX6 19 yJ7_fill_53178, Cond.static yJ7_fill_53178, Cond.initialized RJ7, Cond.code yJ7_fill_53178 cJ7_fill_53178 4 none, Cond.instanceMethod yX6_get, Cond.selects RX6 yX6_get yX6_get, Cond.code yX6_get cX6_get 2 (some .int), Cond.methodLink RX1 90 yX1_walkFrom, Cond.instanceMethod yX1_walkFrom, Cond.selects RX1 yX1_walkFrom yX1_walkFrom, Cond.initialized RX1, Cond.code yX1_walkFrom cX1_walkFrom 3 (some .boolean), Cond.fieldLink RX1 94 "PerfectPew$Graph" "reachedCount" "I", Cond.fieldLink RX1 32 "PerfectPew$Graph" "reached" "LPerfectPew$Row;", Cond.methodLink RX1 97 yX1_reach, Cond.instanceMethod yX1_reach]
def wsX1_giveValues_r2 : List Cond := [Cond.selects RX1 yX1_reach yX1_reach, Cond.code yX1_reach cX1_reach 3 none, Cond.instanceMethod yX6_set, Cond.selects RX6 yX6_set yX6_set, Cond.code yX6_set cX6_set 3 none, Cond.methodLink RX1 100 yX1_walkOn, Cond.instanceMethod yX1_walkOn, Cond.selects RX1 yX1_walkOn yX1_walkOn, Cond.code yX1_walkOn cX1_walkOn 6 (some .boolean), Cond.fieldLink RX1 14 "PerfectPew$Graph" "ends" "LPerfectPew$Groups;", Cond.fieldLink RX1 41 "PerfectPew$Graph" "keyCount" "I", Cond.instanceMethod yX2_beginOf, Cond.initialized RX2, Cond.selects RX2 yX2_beginOf yX2_beginOf, Cond.code yX2_beginOf cX2_beginOf 2 (some .int), Cond.fieldLink RX2 18 "PerfectPew$Groups" "begins" "LPerfectPew$Row;", Cond.instanceMethod yX2_endOf, Cond.selects RX2 yX2_endOf yX2_endOf, Cond.code yX2_endOf cX2_endOf 2 (some .int), Cond.instanceMethod yX2_memberAt, Cond.selects RX2 yX2_memberAt yX2_memberAt, Cond.code yX2_memberAt cX2_memberAt 2 (some .int), Cond.fieldLink RX2 21 "PerfectPew$Groups" "members" "LPerfectPew$Row;", Cond.instanceMethod yX2_groupOf]
def wsX1_giveValues_r3 : List Cond := [Cond.selects RX2 yX2_groupOf yX2_groupOf, Cond.code yX2_groupOf cX2_groupOf 2 (some .int), Cond.fieldLink RX2 12 "PerfectPew$Groups" "groups" "LPerfectPew$Row;", Cond.static yX7_remainder, Cond.initialized RX7, Cond.code yX7_remainder cX7_remainder 2 (some .int)]
def wsX1_giveValues : List Cond := .code yX1_giveValues cX1_giveValues 2 (some .boolean) :: ((wsX1_giveValues_r1 ++ (wsX1_giveValues_r2 ++ wsX1_giveValues_r3)) ++ wsX10 ++ wsX60 ++ wsX20)
def wsX1_settle_r1 : List Cond := [Cond.fieldLink RX1 41 "PerfectPew$Graph" "keyCount" "I", Cond.fieldLink RX1 44 "PerfectPew$Graph" "vertexCount" "I", Cond.fieldLink RX1 47 "PerfectPew$Graph" "seed" "I", Cond.methodLink RX1 50 yX1_layEdges, Cond.instanceMethod yX1_layEdges, Cond.selects RX1 yX1_layEdges yX1_layEdges, Cond.initialized RX1, Cond.code yX1_layEdges cX1_layEdges 4 none, Cond.fieldLink RX1 14 "PerfectPew$Graph" "ends" "LPerfectPew$Groups;", Cond.fieldLink RX1 65 "PerfectPew$Hash" "ONE_END" "LPerfectPew$Hash;", Cond.fieldLink RX1 78 "PerfectPew$Hash" "OTHER_END" "LPerfectPew$Hash;", Cond.instanceMethod yX2_restart, Cond.initialized RX2, Cond.selects RX2 yX2_restart yX2_restart, Cond.code yX2_restart cX2_restart 3 none, Cond.fieldLink RX2 24 "PerfectPew$Groups" "thingCount" "I", Cond.fieldLink RX2 28 "PerfectPew$Groups" "groupCount" "I", Cond.fieldLink RX2 18 "PerfectPew$Groups" "begins" "LPerfectPew$Row;", Cond.instanceMethod yX6_fill, Cond.initialized RX6, Cond.selects RX6 yX6_fill yX6_fill, Cond.code yX6_fill cX6_fill 2 none, Cond.fieldLink RX6 13 "PerfectPew$Row" "cells" "[I", Cond.methodLink RX6 19 yJ7_fill_53178]
def wsX1_settle_r2 : List Cond := [Cond.static yJ7_fill_53178, Cond.initialized RJ7, Cond.code yJ7_fill_53178 cJ7_fill_53178 4 none, Cond.instanceMethod yX4_at, Cond.initialized RX4, Cond.selects RX4 yX4_at yX4_at, Cond.code yX4_at cX4_at 2 (some .int), Cond.fieldLink RX4 14 "PerfectPew$KeyList" "places" "LPerfectPew$Row;", Cond.instanceMethod yX6_get, Cond.selects RX6 yX6_get yX6_get, Cond.code yX6_get cX6_get 2 (some .int), Cond.methodLink RX1 71 yX1_vertexOf, Cond.instanceMethod yX1_vertexOf, Cond.selects RX1 yX1_vertexOf yX1_vertexOf, Cond.code yX1_vertexOf cX1_vertexOf 3 (some .int), Cond.instanceMethod yX3_of, Cond.initialized RX3, Cond.selects RX3 yX3_of yX3_of, Cond.code yX3_of cX3_of 3 (some .int), Cond.fieldLink RX3 43 "PerfectPew$Hash" "perKey" "J", Cond.fieldLink RX3 47 "PerfectPew$Hash" "perSeed" "J", Cond.fieldLink RX3 50 "PerfectPew$Hash" "more" "J", Cond.constantLong RX3 53 (1000003), Cond.static yX7_remainder]
def wsX1_settle_r3 : List Cond := [Cond.initialized RX7, Cond.code yX7_remainder cX7_remainder 2 (some .int), Cond.instanceMethod yX2_assign, Cond.selects RX2 yX2_assign yX2_assign, Cond.code yX2_assign cX2_assign 3 none, Cond.fieldLink RX2 12 "PerfectPew$Groups" "groups" "LPerfectPew$Row;", Cond.instanceMethod yX6_set, Cond.selects RX6 yX6_set yX6_set, Cond.code yX6_set cX6_set 3 none, Cond.instanceMethod yX2_arrange, Cond.selects RX2 yX2_arrange yX2_arrange, Cond.code yX2_arrange cX2_arrange 5 none, Cond.fieldLink RX2 21 "PerfectPew$Groups" "members" "LPerfectPew$Row;", Cond.methodLink RX1 54 yX1_giveValues, Cond.instanceMethod yX1_giveValues, Cond.selects RX1 yX1_giveValues yX1_giveValues, Cond.code yX1_giveValues cX1_giveValues 2 (some .boolean), Cond.fieldLink RX1 29 "PerfectPew$Graph" "values" "LPerfectPew$Row;", Cond.fieldLink RX1 25 "PerfectPew$Graph" "walked" "LPerfectPew$Row;", Cond.methodLink RX1 90 yX1_walkFrom, Cond.instanceMethod yX1_walkFrom, Cond.selects RX1 yX1_walkFrom yX1_walkFrom, Cond.code yX1_walkFrom cX1_walkFrom 3 (some .boolean), Cond.fieldLink RX1 94 "PerfectPew$Graph" "reachedCount" "I"]
def wsX1_settle_r4 : List Cond := [Cond.fieldLink RX1 32 "PerfectPew$Graph" "reached" "LPerfectPew$Row;", Cond.methodLink RX1 97 yX1_reach, Cond.instanceMethod yX1_reach, Cond.selects RX1 yX1_reach yX1_reach, Cond.code yX1_reach cX1_reach 3 none, Cond.methodLink RX1 100 yX1_walkOn, Cond.instanceMethod yX1_walkOn, Cond.selects RX1 yX1_walkOn yX1_walkOn, Cond.code yX1_walkOn cX1_walkOn 6 (some .boolean), Cond.instanceMethod yX2_beginOf, Cond.selects RX2 yX2_beginOf yX2_beginOf, Cond.code yX2_beginOf cX2_beginOf 2 (some .int), Cond.instanceMethod yX2_endOf, Cond.selects RX2 yX2_endOf yX2_endOf, Cond.code yX2_endOf cX2_endOf 2 (some .int), Cond.instanceMethod yX2_memberAt, Cond.selects RX2 yX2_memberAt yX2_memberAt, Cond.code yX2_memberAt cX2_memberAt 2 (some .int), Cond.instanceMethod yX2_groupOf, Cond.selects RX2 yX2_groupOf yX2_groupOf, Cond.code yX2_groupOf cX2_groupOf 2 (some .int)]
def wsX1_settle : List Cond := .code yX1_settle cX1_settle 3 (some .boolean) :: ((wsX1_settle_r1 ++ (wsX1_settle_r2 ++ (wsX1_settle_r3 ++ wsX1_settle_r4))) ++ wsX40 ++ wsX10 ++ wsX20 ++ wsX60)
def wsX1_sumFor_r1 : List Cond := [Cond.fieldLink RX1 29 "PerfectPew$Graph" "values" "LPerfectPew$Row;", Cond.fieldLink RX1 65 "PerfectPew$Hash" "ONE_END" "LPerfectPew$Hash;", Cond.fieldLink RX1 78 "PerfectPew$Hash" "OTHER_END" "LPerfectPew$Hash;", Cond.fieldLink RX1 41 "PerfectPew$Graph" "keyCount" "I", Cond.methodLink RX1 71 yX1_vertexOf, Cond.instanceMethod yX1_vertexOf, Cond.selects RX1 yX1_vertexOf yX1_vertexOf, Cond.initialized RX1, Cond.code yX1_vertexOf cX1_vertexOf 3 (some .int), Cond.fieldLink RX1 47 "PerfectPew$Graph" "seed" "I", Cond.fieldLink RX1 44 "PerfectPew$Graph" "vertexCount" "I", Cond.instanceMethod yX3_of, Cond.initialized RX3, Cond.selects RX3 yX3_of yX3_of, Cond.code yX3_of cX3_of 3 (some .int), Cond.fieldLink RX3 43 "PerfectPew$Hash" "perKey" "J", Cond.fieldLink RX3 47 "PerfectPew$Hash" "perSeed" "J", Cond.fieldLink RX3 50 "PerfectPew$Hash" "more" "J", Cond.constantLong RX3 53 (1000003), Cond.static yX7_remainder, Cond.initialized RX7, Cond.code yX7_remainder cX7_remainder 2 (some .int), Cond.instanceMethod yX6_get, Cond.initialized RX6]
def wsX1_sumFor_r2 : List Cond := [Cond.selects RX6 yX6_get yX6_get, Cond.code yX6_get cX6_get 2 (some .int), Cond.fieldLink RX6 13 "PerfectPew$Row" "cells" "[I"]
def wsX1_sumFor : List Cond := .code yX1_sumFor cX1_sumFor 4 (some .int) :: ((wsX1_sumFor_r1 ++ wsX1_sumFor_r2) ++ wsX10 ++ wsX60)
def wsX4_init : List Cond := .code yX4_init cX4_init 1 none :: ([.methodLink RX4 3 objectInit, .instanceMethod objectInit, .code objectInit ⟨#[0xb1]⟩ 1 none, .classLink RX4 9 RX6, .instantiable RX6 1, .initialized RX6, .fieldLink RX4 14 "PerfectPew$KeyList" "places" "LPerfectPew$Row;", .instanceMethod yX6_init, .code yX6_init cX6_init 2 none, .methodLink RX6 1 objectInit, .methodLink RX6 7 Lib.Math.max.name, .static Lib.Math.max.name, .initialized "java/lang/Math", .code Lib.Math.max.name Lib.Math.max.code 2 (some .int), .arrayClass .int, .fieldLink RX6 13 "PerfectPew$Row" "cells" "[I"] ++ wsX60 ++ wsX40)
def wsX4_rankOf : List Cond := .code yX4_rankOf cX4_rankOf 5 (some .int) :: ([.fieldLink RX4 24 "PerfectPew$KeyList" "size" "I", .fieldLink RX4 14 "PerfectPew$KeyList" "places" "LPerfectPew$Row;", .instanceMethod yX6_get, .initialized RX6, .selects RX6 yX6_get yX6_get, .code yX6_get cX6_get 2 (some .int), .fieldLink RX6 13 "PerfectPew$Row" "cells" "[I"] ++ wsX40 ++ wsX60)
def wsX4_holds : List Cond := .code yX4_holds cX4_holds 3 (some .boolean) :: ([.fieldLink RX4 24 "PerfectPew$KeyList" "size" "I", .fieldLink RX4 14 "PerfectPew$KeyList" "places" "LPerfectPew$Row;", .methodLink RX4 28 yX4_rankOf, .instanceMethod yX4_rankOf, .selects RX4 yX4_rankOf yX4_rankOf, .initialized RX4, .code yX4_rankOf cX4_rankOf 5 (some .int), .instanceMethod yX6_get, .initialized RX6, .selects RX6 yX6_get yX6_get, .code yX6_get cX6_get 2 (some .int), .fieldLink RX6 13 "PerfectPew$Row" "cells" "[I"] ++ wsX40 ++ wsX60)
def wsX4_insert : List Cond := .code yX4_insert cX4_insert 4 none :: ([.fieldLink RX4 24 "PerfectPew$KeyList" "size" "I", .fieldLink RX4 14 "PerfectPew$KeyList" "places" "LPerfectPew$Row;", .methodLink RX4 28 yX4_rankOf, .instanceMethod yX4_rankOf, .selects RX4 yX4_rankOf yX4_rankOf, .initialized RX4, .code yX4_rankOf cX4_rankOf 5 (some .int), .instanceMethod yX6_get, .initialized RX6, .selects RX6 yX6_get yX6_get, .code yX6_get cX6_get 2 (some .int), .fieldLink RX6 13 "PerfectPew$Row" "cells" "[I", .instanceMethod yX6_set, .selects RX6 yX6_set yX6_set, .code yX6_set cX6_set 3 none] ++ wsX40 ++ wsX60)
def wsX4_delete : List Cond := .code yX4_delete cX4_delete 3 none :: ([.fieldLink RX4 24 "PerfectPew$KeyList" "size" "I", .fieldLink RX4 14 "PerfectPew$KeyList" "places" "LPerfectPew$Row;", .methodLink RX4 28 yX4_rankOf, .instanceMethod yX4_rankOf, .selects RX4 yX4_rankOf yX4_rankOf, .initialized RX4, .code yX4_rankOf cX4_rankOf 5 (some .int), .instanceMethod yX6_get, .initialized RX6, .selects RX6 yX6_get yX6_get, .code yX6_get cX6_get 2 (some .int), .fieldLink RX6 13 "PerfectPew$Row" "cells" "[I", .instanceMethod yX6_set, .selects RX6 yX6_set yX6_set, .code yX6_set cX6_set 3 none] ++ wsX40 ++ wsX60)
def wsX5_init : List Cond := .code yX5_init cX5_init 1 none :: ([.methodLink RX5 3 objectInit, .instanceMethod objectInit, .code objectInit ⟨#[0xb1]⟩ 1 none, .arrayClass .long, .fieldLink RX5 9 "PerfectPew$Packer" "words" "[J"] ++ wsX50)
def wsJ7_fill_d0a16 : List Cond := .code yJ7_fill_d0a16 cJ7_fill_d0a16 5 none :: ([])
def wsX5_greatest : List Cond := .code yX5_greatest cX5_greatest 4 (some .int) :: ([.methodLink RX5 49 Lib.Math.max.name, .static Lib.Math.max.name, .initialized "java/lang/Math", .code Lib.Math.max.name Lib.Math.max.code 2 (some .int), .instanceMethod yX6_get, .initialized RX6, .selects RX6 yX6_get yX6_get, .code yX6_get cX6_get 2 (some .int), .fieldLink RX6 13 "PerfectPew$Row" "cells" "[I"] ++ wsX60)
def wsX5_widthFor : List Cond := .code yX5_widthFor cX5_widthFor 2 (some .int) :: ([])
def wsX5_join : List Cond := .code yX5_join cX5_join 4 none :: ([.fieldLink RX5 9 "PerfectPew$Packer" "words" "[J"] ++ wsX50)
def wsX5_write : List Cond := .code yX5_write cX5_write 6 none :: ([.fieldLink RX5 29 "PerfectPew$Packer" "bitsEach" "I", .methodLink RX5 54 yX5_join, .instanceMethod yX5_join, .selects RX5 yX5_join yX5_join, .initialized RX5, .code yX5_join cX5_join 4 none, .fieldLink RX5 9 "PerfectPew$Packer" "words" "[J"] ++ wsX50)
def wsX5_pack_r1 : List Cond := [Cond.fieldLink RX5 9 "PerfectPew$Packer" "words" "[J", Cond.fieldLink RX5 29 "PerfectPew$Packer" "bitsEach" "I", Cond.fieldLink RX5 37 "PerfectPew$Packer" "wordCount" "I", Cond.methodLink RX5 15 yJ7_fill_d0a16, Cond.static yJ7_fill_d0a16, Cond.initialized RJ7, Cond.code yJ7_fill_d0a16 cJ7_fill_d0a16 5 none, Cond.methodLink RX5 21 yX5_greatest, Cond.static yX5_greatest, Cond.initialized RX5, Cond.code yX5_greatest cX5_greatest 4 (some .int), Cond.methodLink RX5 49 Lib.Math.max.name, Cond.static Lib.Math.max.name, Cond.initialized "java/lang/Math", Cond.code Lib.Math.max.name Lib.Math.max.code 2 (some .int), Cond.instanceMethod yX6_get, Cond.initialized RX6, Cond.selects RX6 yX6_get yX6_get, Cond.code yX6_get cX6_get 2 (some .int), Cond.fieldLink RX6 13 "PerfectPew$Row" "cells" "[I", Cond.methodLink RX5 25 yX5_widthFor, Cond.static yX5_widthFor, Cond.code yX5_widthFor cX5_widthFor 2 (some .int), Cond.static yX7_dividedUp]
def wsX5_pack_r2 : List Cond := [Cond.initialized RX7, Cond.code yX7_dividedUp cX7_dividedUp 2 (some .int), Cond.methodLink RX5 45 yX5_write, Cond.instanceMethod yX5_write, Cond.selects RX5 yX5_write yX5_write, Cond.code yX5_write cX5_write 6 none, Cond.methodLink RX5 54 yX5_join, Cond.instanceMethod yX5_join, Cond.selects RX5 yX5_join yX5_join, Cond.code yX5_join cX5_join 4 none]
def wsX5_pack : List Cond := .code yX5_pack cX5_pack 4 none :: ((wsX5_pack_r1 ++ wsX5_pack_r2) ++ wsX50 ++ wsX60)
def wsX5_wordAt : List Cond := .code yX5_wordAt cX5_wordAt 2 (some .long) :: ([.fieldLink RX5 9 "PerfectPew$Packer" "words" "[J"] ++ wsX50)
def wsX7_init_r1 : List Cond := [Cond.methodLink RX7 1 objectInit, Cond.instanceMethod objectInit, Cond.code objectInit ⟨#[0xb1]⟩ 1 none, Cond.classLink RX7 7 RX4, Cond.instantiable RX4 2, Cond.initialized RX4, Cond.fieldLink RX7 10 "PerfectPew" "sorted" "LPerfectPew$KeyList;", Cond.classLink RX7 16 RX0, Cond.instantiable RX0 9, Cond.initialized RX0, Cond.fieldLink RX7 19 "PerfectPew" "displacer" "LPerfectPew$Displacer;", Cond.classLink RX7 23 RX5, Cond.instantiable RX5 3, Cond.initialized RX5, Cond.fieldLink RX7 26 "PerfectPew" "packer" "LPerfectPew$Packer;", Cond.classLink RX7 30 RX1, Cond.instantiable RX1 8, Cond.initialized RX1, Cond.fieldLink RX7 33 "PerfectPew" "graph" "LPerfectPew$Graph;", Cond.classLink RX7 37 RX6, Cond.instantiable RX6 1, Cond.initialized RX6, Cond.fieldLink RX7 42 "PerfectPew" "fingerprints" "LPerfectPew$Row;", Cond.instanceMethod yX4_init]
def wsX7_init_r2 : List Cond := [Cond.code yX4_init cX4_init 1 none, Cond.methodLink RX4 3 objectInit, Cond.classLink RX4 9 RX6, Cond.fieldLink RX4 14 "PerfectPew$KeyList" "places" "LPerfectPew$Row;", Cond.instanceMethod yX6_init, Cond.code yX6_init cX6_init 2 none, Cond.methodLink RX6 1 objectInit, Cond.methodLink RX6 7 Lib.Math.max.name, Cond.static Lib.Math.max.name, Cond.initialized "java/lang/Math", Cond.code Lib.Math.max.name Lib.Math.max.code 2 (some .int), Cond.arrayClass .int, Cond.fieldLink RX6 13 "PerfectPew$Row" "cells" "[I", Cond.instanceMethod yX0_init, Cond.code yX0_init cX0_init 1 none, Cond.methodLink RX0 3 objectInit, Cond.classLink RX0 9 RX2, Cond.instantiable RX2 5, Cond.initialized RX2, Cond.fieldLink RX0 14 "PerfectPew$Displacer" "ranksByBucket" "LPerfectPew$Groups;", Cond.classLink RX0 20 RX6, Cond.fieldLink RX0 25 "PerfectPew$Displacer" "starts" "LPerfectPew$Row;", Cond.fieldLink RX0 29 "PerfectPew$Displacer" "steps" "LPerfectPew$Row;", Cond.fieldLink RX0 32 "PerfectPew$Displacer" "numbers" "LPerfectPew$Row;"]
def wsX7_init_r3 : List Cond := [Cond.fieldLink RX0 35 "PerfectPew$Displacer" "displacements" "LPerfectPew$Row;", Cond.fieldLink RX0 38 "PerfectPew$Displacer" "ranksByNumber" "LPerfectPew$Row;", Cond.instanceMethod yX2_init, Cond.code yX2_init cX2_init 3 none, Cond.methodLink RX2 1 objectInit, Cond.classLink RX2 7 RX6, Cond.fieldLink RX2 12 "PerfectPew$Groups" "groups" "LPerfectPew$Row;", Cond.fieldLink RX2 18 "PerfectPew$Groups" "begins" "LPerfectPew$Row;", Cond.fieldLink RX2 21 "PerfectPew$Groups" "members" "LPerfectPew$Row;", Cond.instanceMethod yX5_init, Cond.code yX5_init cX5_init 1 none, Cond.methodLink RX5 3 objectInit, Cond.arrayClass .long, Cond.fieldLink RX5 9 "PerfectPew$Packer" "words" "[J", Cond.instanceMethod yX1_init, Cond.code yX1_init cX1_init 1 none, Cond.methodLink RX1 3 objectInit, Cond.classLink RX1 9 RX2, Cond.fieldLink RX1 14 "PerfectPew$Graph" "ends" "LPerfectPew$Groups;", Cond.classLink RX1 20 RX6, Cond.fieldLink RX1 25 "PerfectPew$Graph" "walked" "LPerfectPew$Row;", Cond.fieldLink RX1 29 "PerfectPew$Graph" "values" "LPerfectPew$Row;", Cond.fieldLink RX1 32 "PerfectPew$Graph" "reached" "LPerfectPew$Row;"]
def wsX7_init : List Cond := .code yX7_init cX7_init 1 none :: ((wsX7_init_r1 ++ (wsX7_init_r2 ++ wsX7_init_r3)) ++ wsX40 ++ wsX70 ++ wsX00 ++ wsX50 ++ wsX10 ++ wsX60 ++ wsX20)
def wsX7_requireKey : List Cond := .code yX7_requireKey cX7_requireKey 1 none :: ([.classLink RX7 94 "java/lang/IllegalArgumentException", .initialized "java/lang/IllegalArgumentException", .constant RX7 178 (99999)] ++ (vx_atS RX7 98 "java/lang/IllegalArgumentException" ["java/lang/RuntimeException", "java/lang/Exception"]).filter goodWord)
def wsX7_requireOpen : List Cond := .code yX7_requireOpen cX7_requireOpen 1 none :: ([.classLink RX7 56 "java/lang/IllegalStateException", .initialized "java/lang/IllegalStateException", .fieldLink RX7 125 "PerfectPew" "built" "Z"] ++ wsX70 ++ (vx_atS RX7 60 "java/lang/IllegalStateException" ["java/lang/RuntimeException", "java/lang/Exception"]).filter goodWord)
def wsX7_requireRoomFor : List Cond := .code yX7_requireRoomFor cX7_requireRoomFor 2 none :: ([.classLink RX7 56 "java/lang/IllegalStateException", .initialized "java/lang/IllegalStateException", .fieldLink RX7 10 "PerfectPew" "sorted" "LPerfectPew$KeyList;"] ++ wsX70 ++ wsX40 ++ (vx_atS RX7 60 "java/lang/IllegalStateException" ["java/lang/RuntimeException", "java/lang/Exception"]).filter goodWord)
def wsX7_add_r1 : List Cond := [Cond.classLink RX7 56 "java/lang/IllegalStateException", Cond.initialized "java/lang/IllegalStateException", Cond.fieldLink RX7 10 "PerfectPew" "sorted" "LPerfectPew$KeyList;", Cond.methodLink RX7 46 yX7_requireKey, Cond.static yX7_requireKey, Cond.initialized RX7, Cond.code yX7_requireKey cX7_requireKey 1 none, Cond.classLink RX7 94 "java/lang/IllegalArgumentException", Cond.initialized "java/lang/IllegalArgumentException", Cond.constant RX7 178 (99999), Cond.methodLink RX7 49 yX7_requireOpen, Cond.instanceMethod yX7_requireOpen, Cond.selects RX7 yX7_requireOpen yX7_requireOpen, Cond.code yX7_requireOpen cX7_requireOpen 1 none, Cond.fieldLink RX7 125 "PerfectPew" "built" "Z", Cond.instanceMethod yX4_holds, Cond.initialized RX4, Cond.selects RX4 yX4_holds yX4_holds, Cond.code yX4_holds cX4_holds 3 (some .boolean), Cond.fieldLink RX4 24 "PerfectPew$KeyList" "size" "I", Cond.fieldLink RX4 14 "PerfectPew$KeyList" "places" "LPerfectPew$Row;", Cond.methodLink RX4 28 yX4_rankOf, Cond.instanceMethod yX4_rankOf, Cond.selects RX4 yX4_rankOf yX4_rankOf]
def wsX7_add_r2 : List Cond := [Cond.code yX4_rankOf cX4_rankOf 5 (some .int), Cond.instanceMethod yX6_get, Cond.initialized RX6, Cond.selects RX6 yX6_get yX6_get, Cond.code yX6_get cX6_get 2 (some .int), Cond.fieldLink RX6 13 "PerfectPew$Row" "cells" "[I", Cond.methodLink RX7 63 yX7_requireRoomFor, Cond.instanceMethod yX7_requireRoomFor, Cond.selects RX7 yX7_requireRoomFor yX7_requireRoomFor, Cond.code yX7_requireRoomFor cX7_requireRoomFor 2 none, Cond.instanceMethod yX4_insert, Cond.selects RX4 yX4_insert yX4_insert, Cond.code yX4_insert cX4_insert 4 none, Cond.instanceMethod yX6_set, Cond.selects RX6 yX6_set yX6_set, Cond.code yX6_set cX6_set 3 none]
def wsX7_add : List Cond := .code yX7_add cX7_add 2 (some .int) :: ((wsX7_add_r1 ++ wsX7_add_r2) ++ wsX70 ++ wsX40 ++ wsX60 ++ (vx_atS RX7 60 "java/lang/IllegalStateException" ["java/lang/RuntimeException", "java/lang/Exception"]).filter goodWord ++ (vx_atS RX7 98 "java/lang/IllegalArgumentException" ["java/lang/RuntimeException", "java/lang/Exception"]).filter goodWord)
def wsX7_requireLine : List Cond := .code yX7_requireLine cX7_requireLine 3 none :: ([.classLink RX7 94 "java/lang/IllegalArgumentException", .initialized "java/lang/IllegalArgumentException", .methodLink RX7 46 yX7_requireKey, .static yX7_requireKey, .initialized RX7, .code yX7_requireKey cX7_requireKey 1 none, .constant RX7 178 (99999)] ++ (vx_atS RX7 98 "java/lang/IllegalArgumentException" ["java/lang/RuntimeException", "java/lang/Exception"]).filter goodWord)
def wsX7_newInLine : List Cond := .code yX7_newInLine cX7_newInLine 6 (some .int) :: ([.fieldLink RX7 10 "PerfectPew" "sorted" "LPerfectPew$KeyList;", .instanceMethod yX4_holds, .initialized RX4, .selects RX4 yX4_holds yX4_holds, .code yX4_holds cX4_holds 3 (some .boolean), .fieldLink RX4 24 "PerfectPew$KeyList" "size" "I", .fieldLink RX4 14 "PerfectPew$KeyList" "places" "LPerfectPew$Row;", .methodLink RX4 28 yX4_rankOf, .instanceMethod yX4_rankOf, .selects RX4 yX4_rankOf yX4_rankOf, .code yX4_rankOf cX4_rankOf 5 (some .int), .instanceMethod yX6_get, .initialized RX6, .selects RX6 yX6_get yX6_get, .code yX6_get cX6_get 2 (some .int), .fieldLink RX6 13 "PerfectPew$Row" "cells" "[I"] ++ wsX70 ++ wsX40 ++ wsX60)
def wsX7_addLine_r1 : List Cond := [Cond.fieldLink RX7 10 "PerfectPew" "sorted" "LPerfectPew$KeyList;", Cond.methodLink RX7 73 yX7_requireLine, Cond.static yX7_requireLine, Cond.initialized RX7, Cond.code yX7_requireLine cX7_requireLine 3 none, Cond.classLink RX7 94 "java/lang/IllegalArgumentException", Cond.initialized "java/lang/IllegalArgumentException", Cond.methodLink RX7 46 yX7_requireKey, Cond.static yX7_requireKey, Cond.code yX7_requireKey cX7_requireKey 1 none, Cond.constant RX7 178 (99999), Cond.methodLink RX7 49 yX7_requireOpen, Cond.instanceMethod yX7_requireOpen, Cond.selects RX7 yX7_requireOpen yX7_requireOpen, Cond.code yX7_requireOpen cX7_requireOpen 1 none, Cond.classLink RX7 56 "java/lang/IllegalStateException", Cond.initialized "java/lang/IllegalStateException", Cond.fieldLink RX7 125 "PerfectPew" "built" "Z", Cond.methodLink RX7 77 yX7_newInLine, Cond.instanceMethod yX7_newInLine, Cond.selects RX7 yX7_newInLine yX7_newInLine, Cond.code yX7_newInLine cX7_newInLine 6 (some .int), Cond.instanceMethod yX4_holds, Cond.initialized RX4]
def wsX7_addLine_r2 : List Cond := [Cond.selects RX4 yX4_holds yX4_holds, Cond.code yX4_holds cX4_holds 3 (some .boolean), Cond.fieldLink RX4 24 "PerfectPew$KeyList" "size" "I", Cond.fieldLink RX4 14 "PerfectPew$KeyList" "places" "LPerfectPew$Row;", Cond.methodLink RX4 28 yX4_rankOf, Cond.instanceMethod yX4_rankOf, Cond.selects RX4 yX4_rankOf yX4_rankOf, Cond.code yX4_rankOf cX4_rankOf 5 (some .int), Cond.instanceMethod yX6_get, Cond.initialized RX6, Cond.selects RX6 yX6_get yX6_get, Cond.code yX6_get cX6_get 2 (some .int), Cond.fieldLink RX6 13 "PerfectPew$Row" "cells" "[I", Cond.methodLink RX7 63 yX7_requireRoomFor, Cond.instanceMethod yX7_requireRoomFor, Cond.selects RX7 yX7_requireRoomFor yX7_requireRoomFor, Cond.code yX7_requireRoomFor cX7_requireRoomFor 2 none, Cond.instanceMethod yX4_insert, Cond.selects RX4 yX4_insert yX4_insert, Cond.code yX4_insert cX4_insert 4 none, Cond.instanceMethod yX6_set, Cond.selects RX6 yX6_set yX6_set, Cond.code yX6_set cX6_set 3 none]
def wsX7_addLine : List Cond := .code yX7_addLine cX7_addLine 6 (some .int) :: ((wsX7_addLine_r1 ++ wsX7_addLine_r2) ++ wsX70 ++ wsX40 ++ wsX60 ++ (vx_atS RX7 98 "java/lang/IllegalArgumentException" ["java/lang/RuntimeException", "java/lang/Exception"]).filter goodWord ++ (vx_atS RX7 60 "java/lang/IllegalStateException" ["java/lang/RuntimeException", "java/lang/Exception"]).filter goodWord)
def wsX7_remove_r1 : List Cond := [Cond.classLink RX7 56 "java/lang/IllegalStateException", Cond.initialized "java/lang/IllegalStateException", Cond.fieldLink RX7 10 "PerfectPew" "sorted" "LPerfectPew$KeyList;", Cond.methodLink RX7 46 yX7_requireKey, Cond.static yX7_requireKey, Cond.initialized RX7, Cond.code yX7_requireKey cX7_requireKey 1 none, Cond.classLink RX7 94 "java/lang/IllegalArgumentException", Cond.initialized "java/lang/IllegalArgumentException", Cond.constant RX7 178 (99999), Cond.methodLink RX7 49 yX7_requireOpen, Cond.instanceMethod yX7_requireOpen, Cond.selects RX7 yX7_requireOpen yX7_requireOpen, Cond.code yX7_requireOpen cX7_requireOpen 1 none, Cond.fieldLink RX7 125 "PerfectPew" "built" "Z", Cond.instanceMethod yX4_holds, Cond.initialized RX4, Cond.selects RX4 yX4_holds yX4_holds, Cond.code yX4_holds cX4_holds 3 (some .boolean), Cond.fieldLink RX4 24 "PerfectPew$KeyList" "size" "I", Cond.fieldLink RX4 14 "PerfectPew$KeyList" "places" "LPerfectPew$Row;", Cond.methodLink RX4 28 yX4_rankOf, Cond.instanceMethod yX4_rankOf, Cond.selects RX4 yX4_rankOf yX4_rankOf]
def wsX7_remove_r2 : List Cond := [Cond.code yX4_rankOf cX4_rankOf 5 (some .int), Cond.instanceMethod yX6_get, Cond.initialized RX6, Cond.selects RX6 yX6_get yX6_get, Cond.code yX6_get cX6_get 2 (some .int), Cond.fieldLink RX6 13 "PerfectPew$Row" "cells" "[I", Cond.instanceMethod yX4_delete, Cond.selects RX4 yX4_delete yX4_delete, Cond.code yX4_delete cX4_delete 3 none, Cond.instanceMethod yX6_set, Cond.selects RX6 yX6_set yX6_set, Cond.code yX6_set cX6_set 3 none]
def wsX7_remove : List Cond := .code yX7_remove cX7_remove 2 (some .int) :: ((wsX7_remove_r1 ++ wsX7_remove_r2) ++ wsX70 ++ wsX40 ++ wsX60 ++ (vx_atS RX7 60 "java/lang/IllegalStateException" ["java/lang/RuntimeException", "java/lang/Exception"]).filter goodWord ++ (vx_atS RX7 98 "java/lang/IllegalArgumentException" ["java/lang/RuntimeException", "java/lang/Exception"]).filter goodWord)
def wsX7_keys : List Cond := .code yX7_keys cX7_keys 1 (some .int) :: ([.fieldLink RX7 10 "PerfectPew" "sorted" "LPerfectPew$KeyList;"] ++ wsX70 ++ wsX40)
def wsX7_has : List Cond := .code yX7_has cX7_has 2 (some .boolean) :: ([.fieldLink RX7 10 "PerfectPew" "sorted" "LPerfectPew$KeyList;", .methodLink RX7 46 yX7_requireKey, .static yX7_requireKey, .initialized RX7, .code yX7_requireKey cX7_requireKey 1 none, .classLink RX7 94 "java/lang/IllegalArgumentException", .initialized "java/lang/IllegalArgumentException", .constant RX7 178 (99999), .instanceMethod yX4_holds, .initialized RX4, .selects RX4 yX4_holds yX4_holds, .code yX4_holds cX4_holds 3 (some .boolean), .fieldLink RX4 24 "PerfectPew$KeyList" "size" "I", .fieldLink RX4 14 "PerfectPew$KeyList" "places" "LPerfectPew$Row;", .methodLink RX4 28 yX4_rankOf, .instanceMethod yX4_rankOf, .selects RX4 yX4_rankOf yX4_rankOf, .code yX4_rankOf cX4_rankOf 5 (some .int), .instanceMethod yX6_get, .initialized RX6, .selects RX6 yX6_get yX6_get, .code yX6_get cX6_get 2 (some .int), .fieldLink RX6 13 "PerfectPew$Row" "cells" "[I"] ++ wsX70 ++ wsX40 ++ wsX60 ++ (vx_atS RX7 98 "java/lang/IllegalArgumentException" ["java/lang/RuntimeException", "java/lang/Exception"]).filter goodWord)
def wsX7_requireBelow : List Cond := .code yX7_requireBelow cX7_requireBelow 2 none :: ([.classLink RX7 185 "java/lang/IndexOutOfBoundsException", .initialized "java/lang/IndexOutOfBoundsException"] ++ (vx_atS RX7 189 "java/lang/IndexOutOfBoundsException" ["java/lang/RuntimeException", "java/lang/Exception"]).filter goodWord)
def wsX7_keyAt : List Cond := .code yX7_keyAt cX7_keyAt 2 (some .int) :: ([.fieldLink RX7 10 "PerfectPew" "sorted" "LPerfectPew$KeyList;", .methodLink RX7 86 yX7_requireBelow, .static yX7_requireBelow, .initialized RX7, .code yX7_requireBelow cX7_requireBelow 2 none, .classLink RX7 185 "java/lang/IndexOutOfBoundsException", .initialized "java/lang/IndexOutOfBoundsException", .instanceMethod yX4_at, .initialized RX4, .selects RX4 yX4_at yX4_at, .code yX4_at cX4_at 2 (some .int), .fieldLink RX4 14 "PerfectPew$KeyList" "places" "LPerfectPew$Row;", .instanceMethod yX6_get, .initialized RX6, .selects RX6 yX6_get yX6_get, .code yX6_get cX6_get 2 (some .int), .fieldLink RX6 13 "PerfectPew$Row" "cells" "[I"] ++ wsX70 ++ wsX40 ++ wsX60 ++ (vx_atS RX7 189 "java/lang/IndexOutOfBoundsException" ["java/lang/RuntimeException", "java/lang/Exception"]).filter goodWord)
def wsX7_keyWithNumber : List Cond := .code yX7_keyWithNumber cX7_keyWithNumber 2 (some .int) :: ([.fieldLink RX7 10 "PerfectPew" "sorted" "LPerfectPew$KeyList;", .fieldLink RX7 19 "PerfectPew" "displacer" "LPerfectPew$Displacer;", .instanceMethod yX6_get, .initialized RX6, .selects RX6 yX6_get yX6_get, .code yX6_get cX6_get 2 (some .int), .fieldLink RX6 13 "PerfectPew$Row" "cells" "[I", .instanceMethod yX4_at, .initialized RX4, .selects RX4 yX4_at yX4_at, .code yX4_at cX4_at 2 (some .int), .fieldLink RX4 14 "PerfectPew$KeyList" "places" "LPerfectPew$Row;"] ++ wsX70 ++ wsX00 ++ wsX60 ++ wsX40)
def wsX7_fingerprintOf : List Cond := .code yX7_fingerprintOf cX7_fingerprintOf 2 (some .int) :: ([.fieldLink RX7 205 "PerfectPew$Hash" "FINGERPRINT" "LPerfectPew$Hash;", .fieldLink RX7 19 "PerfectPew" "displacer" "LPerfectPew$Displacer;", .fieldLink RX7 196 "PerfectPew" "fingerprintMask" "I", .instanceMethod yX3_of, .initialized RX3, .selects RX3 yX3_of yX3_of, .code yX3_of cX3_of 3 (some .int), .fieldLink RX3 43 "PerfectPew$Hash" "perKey" "J", .fieldLink RX3 47 "PerfectPew$Hash" "perSeed" "J", .fieldLink RX3 50 "PerfectPew$Hash" "more" "J", .constantLong RX3 53 (1000003)] ++ wsX70 ++ wsX00)
def wsX7_keepFingerprints_r1 : List Cond := [Cond.fieldLink RX7 196 "PerfectPew" "fingerprintMask" "I", Cond.fieldLink RX7 10 "PerfectPew" "sorted" "LPerfectPew$KeyList;", Cond.fieldLink RX7 42 "PerfectPew" "fingerprints" "LPerfectPew$Row;", Cond.methodLink RX7 143 yX7_keyWithNumber, Cond.instanceMethod yX7_keyWithNumber, Cond.selects RX7 yX7_keyWithNumber yX7_keyWithNumber, Cond.initialized RX7, Cond.code yX7_keyWithNumber cX7_keyWithNumber 2 (some .int), Cond.fieldLink RX7 19 "PerfectPew" "displacer" "LPerfectPew$Displacer;", Cond.instanceMethod yX6_get, Cond.initialized RX6, Cond.selects RX6 yX6_get yX6_get, Cond.code yX6_get cX6_get 2 (some .int), Cond.fieldLink RX6 13 "PerfectPew$Row" "cells" "[I", Cond.instanceMethod yX4_at, Cond.initialized RX4, Cond.selects RX4 yX4_at yX4_at, Cond.code yX4_at cX4_at 2 (some .int), Cond.fieldLink RX4 14 "PerfectPew$KeyList" "places" "LPerfectPew$Row;", Cond.methodLink RX7 199 yX7_fingerprintOf, Cond.instanceMethod yX7_fingerprintOf, Cond.selects RX7 yX7_fingerprintOf yX7_fingerprintOf, Cond.code yX7_fingerprintOf cX7_fingerprintOf 2 (some .int), Cond.fieldLink RX7 205 "PerfectPew$Hash" "FINGERPRINT" "LPerfectPew$Hash;"]
def wsX7_keepFingerprints_r2 : List Cond := [Cond.instanceMethod yX3_of, Cond.initialized RX3, Cond.selects RX3 yX3_of yX3_of, Cond.code yX3_of cX3_of 3 (some .int), Cond.fieldLink RX3 43 "PerfectPew$Hash" "perKey" "J", Cond.fieldLink RX3 47 "PerfectPew$Hash" "perSeed" "J", Cond.fieldLink RX3 50 "PerfectPew$Hash" "more" "J", Cond.constantLong RX3 53 (1000003), Cond.instanceMethod yX6_set, Cond.selects RX6 yX6_set yX6_set, Cond.code yX6_set cX6_set 3 none]
def wsX7_keepFingerprints : List Cond := .code yX7_keepFingerprints cX7_keepFingerprints 3 none :: ((wsX7_keepFingerprints_r1 ++ wsX7_keepFingerprints_r2) ++ wsX70 ++ wsX40 ++ wsX00 ++ wsX60)
def wsX7_build_r1 : List Cond := [Cond.classLink RX7 94 "java/lang/IllegalArgumentException", Cond.initialized "java/lang/IllegalArgumentException", Cond.classLink RX7 56 "java/lang/IllegalStateException", Cond.initialized "java/lang/IllegalStateException", Cond.fieldLink RX7 10 "PerfectPew" "sorted" "LPerfectPew$KeyList;", Cond.fieldLink RX7 19 "PerfectPew" "displacer" "LPerfectPew$Displacer;", Cond.fieldLink RX7 33 "PerfectPew" "graph" "LPerfectPew$Graph;", Cond.fieldLink RX7 26 "PerfectPew" "packer" "LPerfectPew$Packer;", Cond.fieldLink RX7 125 "PerfectPew" "built" "Z", Cond.methodLink RX7 49 yX7_requireOpen, Cond.instanceMethod yX7_requireOpen, Cond.selects RX7 yX7_requireOpen yX7_requireOpen, Cond.initialized RX7, Cond.code yX7_requireOpen cX7_requireOpen 1 none, Cond.instanceMethod yX0_settle, Cond.initialized RX0, Cond.selects RX0 yX0_settle yX0_settle, Cond.code yX0_settle cX0_settle 4 (some .boolean), Cond.fieldLink RX0 47 "PerfectPew$Displacer" "keyCount" "I", Cond.fieldLink RX0 54 "PerfectPew$Displacer" "bucketCount" "I", Cond.fieldLink RX0 57 "PerfectPew$Displacer" "seed" "I", Cond.static yX7_dividedUp, Cond.code yX7_dividedUp cX7_dividedUp 2 (some .int), Cond.methodLink RX0 60 yX0_hashKeys]
def wsX7_build_r2 : List Cond := [Cond.instanceMethod yX0_hashKeys, Cond.selects RX0 yX0_hashKeys yX0_hashKeys, Cond.code yX0_hashKeys cX0_hashKeys 4 none, Cond.fieldLink RX0 14 "PerfectPew$Displacer" "ranksByBucket" "LPerfectPew$Groups;", Cond.fieldLink RX0 25 "PerfectPew$Displacer" "starts" "LPerfectPew$Row;", Cond.fieldLink RX0 81 "PerfectPew$Hash" "START" "LPerfectPew$Hash;", Cond.fieldLink RX0 29 "PerfectPew$Displacer" "steps" "LPerfectPew$Row;", Cond.instanceMethod yX2_restart, Cond.initialized RX2, Cond.selects RX2 yX2_restart yX2_restart, Cond.code yX2_restart cX2_restart 3 none, Cond.fieldLink RX2 24 "PerfectPew$Groups" "thingCount" "I", Cond.fieldLink RX2 28 "PerfectPew$Groups" "groupCount" "I", Cond.fieldLink RX2 18 "PerfectPew$Groups" "begins" "LPerfectPew$Row;", Cond.instanceMethod yX6_fill, Cond.initialized RX6, Cond.selects RX6 yX6_fill yX6_fill, Cond.code yX6_fill cX6_fill 2 none, Cond.fieldLink RX6 13 "PerfectPew$Row" "cells" "[I", Cond.methodLink RX6 19 yJ7_fill_53178, Cond.static yJ7_fill_53178, Cond.initialized RJ7, Cond.code yJ7_fill_53178 cJ7_fill_53178 4 none, Cond.instanceMethod yX4_at]
def wsX7_build_r3 : List Cond := [Cond.initialized RX4, Cond.selects RX4 yX4_at yX4_at, Cond.code yX4_at cX4_at 2 (some .int), Cond.fieldLink RX4 14 "PerfectPew$KeyList" "places" "LPerfectPew$Row;", Cond.instanceMethod yX6_get, Cond.selects RX6 yX6_get yX6_get, Cond.code yX6_get cX6_get 2 (some .int), Cond.methodLink RX0 75 yX0_bucketOf, Cond.instanceMethod yX0_bucketOf, Cond.selects RX0 yX0_bucketOf yX0_bucketOf, Cond.code yX0_bucketOf cX0_bucketOf 2 (some .int), Cond.fieldLink RX0 146 "PerfectPew$Hash" "BUCKET" "LPerfectPew$Hash;", Cond.instanceMethod yX3_of, Cond.initialized RX3, Cond.selects RX3 yX3_of yX3_of, Cond.code yX3_of cX3_of 3 (some .int), Cond.fieldLink RX3 43 "PerfectPew$Hash" "perKey" "J", Cond.fieldLink RX3 47 "PerfectPew$Hash" "perSeed" "J", Cond.fieldLink RX3 50 "PerfectPew$Hash" "more" "J", Cond.constantLong RX3 53 (1000003), Cond.static yX7_remainder, Cond.code yX7_remainder cX7_remainder 2 (some .int), Cond.instanceMethod yX2_assign, Cond.selects RX2 yX2_assign yX2_assign]
def wsX7_build_r4 : List Cond := [Cond.code yX2_assign cX2_assign 3 none, Cond.fieldLink RX2 12 "PerfectPew$Groups" "groups" "LPerfectPew$Row;", Cond.instanceMethod yX6_set, Cond.selects RX6 yX6_set yX6_set, Cond.code yX6_set cX6_set 3 none, Cond.methodLink RX0 93 yX0_stepOf, Cond.instanceMethod yX0_stepOf, Cond.selects RX0 yX0_stepOf yX0_stepOf, Cond.code yX0_stepOf cX0_stepOf 2 (some .int), Cond.fieldLink RX0 149 "PerfectPew$Hash" "STEP" "LPerfectPew$Hash;", Cond.instanceMethod yX2_arrange, Cond.selects RX2 yX2_arrange yX2_arrange, Cond.code yX2_arrange cX2_arrange 5 none, Cond.fieldLink RX2 21 "PerfectPew$Groups" "members" "LPerfectPew$Row;", Cond.methodLink RX0 64 yX0_displaceAll, Cond.instanceMethod yX0_displaceAll, Cond.selects RX0 yX0_displaceAll yX0_displaceAll, Cond.code yX0_displaceAll cX0_displaceAll 3 (some .boolean), Cond.fieldLink RX0 35 "PerfectPew$Displacer" "displacements" "LPerfectPew$Row;", Cond.fieldLink RX0 38 "PerfectPew$Displacer" "ranksByNumber" "LPerfectPew$Row;", Cond.methodLink RX0 102 yX0_largestBucket, Cond.instanceMethod yX0_largestBucket, Cond.selects RX0 yX0_largestBucket yX0_largestBucket, Cond.code yX0_largestBucket cX0_largestBucket 3 (some .int)]
def wsX7_build_r5 : List Cond := [Cond.methodLink RX0 113 Lib.Math.max.name, Cond.static Lib.Math.max.name, Cond.initialized "java/lang/Math", Cond.code Lib.Math.max.name Lib.Math.max.code 2 (some .int), Cond.instanceMethod yX2_sizeOf, Cond.selects RX2 yX2_sizeOf yX2_sizeOf, Cond.code yX2_sizeOf cX2_sizeOf 2 (some .int), Cond.methodLink RX2 42 yX2_endOf, Cond.instanceMethod yX2_endOf, Cond.selects RX2 yX2_endOf yX2_endOf, Cond.code yX2_endOf cX2_endOf 2 (some .int), Cond.methodLink RX2 45 yX2_beginOf, Cond.instanceMethod yX2_beginOf, Cond.selects RX2 yX2_beginOf yX2_beginOf, Cond.code yX2_beginOf cX2_beginOf 2 (some .int), Cond.methodLink RX0 109 yX0_displace, Cond.instanceMethod yX0_displace, Cond.selects RX0 yX0_displace yX0_displace, Cond.code yX0_displace cX0_displace 4 (some .boolean), Cond.methodLink RX0 118 Lib.Math.min.name, Cond.static Lib.Math.min.name, Cond.code Lib.Math.min.name Lib.Math.min.code 2 (some .int), Cond.methodLink RX0 121 yX0_place, Cond.instanceMethod yX0_place]
def wsX7_build_r6 : List Cond := [Cond.selects RX0 yX0_place yX0_place, Cond.code yX0_place cX0_place 8 (some .boolean), Cond.fieldLink RX0 32 "PerfectPew$Displacer" "numbers" "LPerfectPew$Row;", Cond.instanceMethod yX2_memberAt, Cond.selects RX2 yX2_memberAt yX2_memberAt, Cond.code yX2_memberAt cX2_memberAt 2 (some .int), Cond.methodLink RX0 134 yX0_numberWith, Cond.instanceMethod yX0_numberWith, Cond.selects RX0 yX0_numberWith yX0_numberWith, Cond.code yX0_numberWith cX0_numberWith 3 (some .int), Cond.methodLink RX0 140 yX0_takeBack, Cond.instanceMethod yX0_takeBack, Cond.selects RX0 yX0_takeBack yX0_takeBack, Cond.code yX0_takeBack cX0_takeBack 5 none, Cond.instanceMethod yX1_settle, Cond.initialized RX1, Cond.selects RX1 yX1_settle yX1_settle, Cond.code yX1_settle cX1_settle 3 (some .boolean), Cond.fieldLink RX1 41 "PerfectPew$Graph" "keyCount" "I", Cond.fieldLink RX1 44 "PerfectPew$Graph" "vertexCount" "I", Cond.fieldLink RX1 47 "PerfectPew$Graph" "seed" "I", Cond.methodLink RX1 50 yX1_layEdges, Cond.instanceMethod yX1_layEdges, Cond.selects RX1 yX1_layEdges yX1_layEdges]
def wsX7_build_r7 : List Cond := [Cond.code yX1_layEdges cX1_layEdges 4 none, Cond.fieldLink RX1 14 "PerfectPew$Graph" "ends" "LPerfectPew$Groups;", Cond.fieldLink RX1 65 "PerfectPew$Hash" "ONE_END" "LPerfectPew$Hash;", Cond.fieldLink RX1 78 "PerfectPew$Hash" "OTHER_END" "LPerfectPew$Hash;", Cond.methodLink RX1 71 yX1_vertexOf, Cond.instanceMethod yX1_vertexOf, Cond.selects RX1 yX1_vertexOf yX1_vertexOf, Cond.code yX1_vertexOf cX1_vertexOf 3 (some .int), Cond.methodLink RX1 54 yX1_giveValues, Cond.instanceMethod yX1_giveValues, Cond.selects RX1 yX1_giveValues yX1_giveValues, Cond.code yX1_giveValues cX1_giveValues 2 (some .boolean), Cond.fieldLink RX1 29 "PerfectPew$Graph" "values" "LPerfectPew$Row;", Cond.fieldLink RX1 25 "PerfectPew$Graph" "walked" "LPerfectPew$Row;", Cond.methodLink RX1 90 yX1_walkFrom, Cond.instanceMethod yX1_walkFrom, Cond.selects RX1 yX1_walkFrom yX1_walkFrom, Cond.code yX1_walkFrom cX1_walkFrom 3 (some .boolean), Cond.fieldLink RX1 94 "PerfectPew$Graph" "reachedCount" "I", Cond.fieldLink RX1 32 "PerfectPew$Graph" "reached" "LPerfectPew$Row;", Cond.methodLink RX1 97 yX1_reach, Cond.instanceMethod yX1_reach, Cond.selects RX1 yX1_reach yX1_reach, Cond.code yX1_reach cX1_reach 3 none]
def wsX7_build_r8 : List Cond := [Cond.methodLink RX1 100 yX1_walkOn, Cond.instanceMethod yX1_walkOn, Cond.selects RX1 yX1_walkOn yX1_walkOn, Cond.code yX1_walkOn cX1_walkOn 6 (some .boolean), Cond.instanceMethod yX2_groupOf, Cond.selects RX2 yX2_groupOf yX2_groupOf, Cond.code yX2_groupOf cX2_groupOf 2 (some .int), Cond.methodLink RX7 112 yX7_keepFingerprints, Cond.instanceMethod yX7_keepFingerprints, Cond.selects RX7 yX7_keepFingerprints yX7_keepFingerprints, Cond.code yX7_keepFingerprints cX7_keepFingerprints 3 none, Cond.fieldLink RX7 196 "PerfectPew" "fingerprintMask" "I", Cond.fieldLink RX7 42 "PerfectPew" "fingerprints" "LPerfectPew$Row;", Cond.methodLink RX7 143 yX7_keyWithNumber, Cond.instanceMethod yX7_keyWithNumber, Cond.selects RX7 yX7_keyWithNumber yX7_keyWithNumber, Cond.code yX7_keyWithNumber cX7_keyWithNumber 2 (some .int), Cond.methodLink RX7 199 yX7_fingerprintOf, Cond.instanceMethod yX7_fingerprintOf, Cond.selects RX7 yX7_fingerprintOf yX7_fingerprintOf, Cond.code yX7_fingerprintOf cX7_fingerprintOf 2 (some .int), Cond.fieldLink RX7 205 "PerfectPew$Hash" "FINGERPRINT" "LPerfectPew$Hash;", Cond.instanceMethod yX5_pack, Cond.initialized RX5]
def wsX7_build_r9 : List Cond := [Cond.selects RX5 yX5_pack yX5_pack, Cond.code yX5_pack cX5_pack 4 none, Cond.fieldLink RX5 9 "PerfectPew$Packer" "words" "[J", Cond.fieldLink RX5 29 "PerfectPew$Packer" "bitsEach" "I", Cond.fieldLink RX5 37 "PerfectPew$Packer" "wordCount" "I", Cond.methodLink RX5 15 yJ7_fill_d0a16, Cond.static yJ7_fill_d0a16, Cond.code yJ7_fill_d0a16 cJ7_fill_d0a16 5 none, Cond.methodLink RX5 21 yX5_greatest, Cond.static yX5_greatest, Cond.code yX5_greatest cX5_greatest 4 (some .int), Cond.methodLink RX5 49 Lib.Math.max.name, Cond.methodLink RX5 25 yX5_widthFor, Cond.static yX5_widthFor, Cond.code yX5_widthFor cX5_widthFor 2 (some .int), Cond.methodLink RX5 45 yX5_write, Cond.instanceMethod yX5_write, Cond.selects RX5 yX5_write yX5_write, Cond.code yX5_write cX5_write 6 none, Cond.methodLink RX5 54 yX5_join, Cond.instanceMethod yX5_join, Cond.selects RX5 yX5_join yX5_join, Cond.code yX5_join cX5_join 4 none]
def wsX7_build : List Cond := .code yX7_build cX7_build 3 (some .int) :: ((wsX7_build_r1 ++ (wsX7_build_r2 ++ (wsX7_build_r3 ++ (wsX7_build_r4 ++ (wsX7_build_r5 ++ (wsX7_build_r6 ++ (wsX7_build_r7 ++ (wsX7_build_r8 ++ wsX7_build_r9)))))))) ++ wsX70 ++ wsX40 ++ wsX00 ++ wsX20 ++ wsX60 ++ wsX10 ++ wsX50 ++ (vx_atS RX7 98 "java/lang/IllegalArgumentException" ["java/lang/RuntimeException", "java/lang/Exception"]).filter goodWord ++ (vx_atS RX7 60 "java/lang/IllegalStateException" ["java/lang/RuntimeException", "java/lang/Exception"]).filter goodWord)
def wsX7_requireBuilt : List Cond := .code yX7_requireBuilt cX7_requireBuilt 1 none :: ([.classLink RX7 56 "java/lang/IllegalStateException", .initialized "java/lang/IllegalStateException", .fieldLink RX7 125 "PerfectPew" "built" "Z"] ++ wsX70 ++ (vx_atS RX7 60 "java/lang/IllegalStateException" ["java/lang/RuntimeException", "java/lang/Exception"]).filter goodWord)
def wsX7_reopen : List Cond := .code yX7_reopen cX7_reopen 1 none :: ([.fieldLink RX7 125 "PerfectPew" "built" "Z", .methodLink RX7 132 yX7_requireBuilt, .instanceMethod yX7_requireBuilt, .selects RX7 yX7_requireBuilt yX7_requireBuilt, .initialized RX7, .code yX7_requireBuilt cX7_requireBuilt 1 none, .classLink RX7 56 "java/lang/IllegalStateException", .initialized "java/lang/IllegalStateException"] ++ wsX70 ++ (vx_atS RX7 60 "java/lang/IllegalStateException" ["java/lang/RuntimeException", "java/lang/Exception"]).filter goodWord)
def wsX7_isBuilt : List Cond := .code yX7_isBuilt cX7_isBuilt 1 (some .boolean) :: ([.fieldLink RX7 125 "PerfectPew" "built" "Z"] ++ wsX70)
def wsX7_number_r1 : List Cond := [Cond.fieldLink RX7 19 "PerfectPew" "displacer" "LPerfectPew$Displacer;", Cond.methodLink RX7 46 yX7_requireKey, Cond.static yX7_requireKey, Cond.initialized RX7, Cond.code yX7_requireKey cX7_requireKey 1 none, Cond.classLink RX7 94 "java/lang/IllegalArgumentException", Cond.initialized "java/lang/IllegalArgumentException", Cond.constant RX7 178 (99999), Cond.methodLink RX7 132 yX7_requireBuilt, Cond.instanceMethod yX7_requireBuilt, Cond.selects RX7 yX7_requireBuilt yX7_requireBuilt, Cond.code yX7_requireBuilt cX7_requireBuilt 1 none, Cond.classLink RX7 56 "java/lang/IllegalStateException", Cond.initialized "java/lang/IllegalStateException", Cond.fieldLink RX7 125 "PerfectPew" "built" "Z", Cond.instanceMethod yX0_numberOf, Cond.initialized RX0, Cond.selects RX0 yX0_numberOf yX0_numberOf, Cond.code yX0_numberOf cX0_numberOf 3 (some .int), Cond.fieldLink RX0 35 "PerfectPew$Displacer" "displacements" "LPerfectPew$Row;", Cond.fieldLink RX0 81 "PerfectPew$Hash" "START" "LPerfectPew$Hash;", Cond.fieldLink RX0 57 "PerfectPew$Displacer" "seed" "I", Cond.fieldLink RX0 47 "PerfectPew$Displacer" "keyCount" "I", Cond.methodLink RX0 75 yX0_bucketOf]
def wsX7_number_r2 : List Cond := [Cond.instanceMethod yX0_bucketOf, Cond.selects RX0 yX0_bucketOf yX0_bucketOf, Cond.code yX0_bucketOf cX0_bucketOf 2 (some .int), Cond.fieldLink RX0 146 "PerfectPew$Hash" "BUCKET" "LPerfectPew$Hash;", Cond.fieldLink RX0 54 "PerfectPew$Displacer" "bucketCount" "I", Cond.instanceMethod yX3_of, Cond.initialized RX3, Cond.selects RX3 yX3_of yX3_of, Cond.code yX3_of cX3_of 3 (some .int), Cond.fieldLink RX3 43 "PerfectPew$Hash" "perKey" "J", Cond.fieldLink RX3 47 "PerfectPew$Hash" "perSeed" "J", Cond.fieldLink RX3 50 "PerfectPew$Hash" "more" "J", Cond.constantLong RX3 53 (1000003), Cond.static yX7_remainder, Cond.code yX7_remainder cX7_remainder 2 (some .int), Cond.instanceMethod yX6_get, Cond.initialized RX6, Cond.selects RX6 yX6_get yX6_get, Cond.code yX6_get cX6_get 2 (some .int), Cond.fieldLink RX6 13 "PerfectPew$Row" "cells" "[I", Cond.methodLink RX0 93 yX0_stepOf, Cond.instanceMethod yX0_stepOf, Cond.selects RX0 yX0_stepOf yX0_stepOf, Cond.code yX0_stepOf cX0_stepOf 2 (some .int)]
def wsX7_number_r3 : List Cond := [Cond.fieldLink RX0 149 "PerfectPew$Hash" "STEP" "LPerfectPew$Hash;"]
def wsX7_number : List Cond := .code yX7_number cX7_number 2 (some .int) :: ((wsX7_number_r1 ++ (wsX7_number_r2 ++ wsX7_number_r3)) ++ wsX70 ++ wsX00 ++ wsX60 ++ (vx_atS RX7 98 "java/lang/IllegalArgumentException" ["java/lang/RuntimeException", "java/lang/Exception"]).filter goodWord ++ (vx_atS RX7 60 "java/lang/IllegalStateException" ["java/lang/RuntimeException", "java/lang/Exception"]).filter goodWord)
def wsX7_lookUp_r1 : List Cond := [Cond.fieldLink RX7 19 "PerfectPew" "displacer" "LPerfectPew$Displacer;", Cond.fieldLink RX7 42 "PerfectPew" "fingerprints" "LPerfectPew$Row;", Cond.instanceMethod yX0_numberOf, Cond.initialized RX0, Cond.selects RX0 yX0_numberOf yX0_numberOf, Cond.code yX0_numberOf cX0_numberOf 3 (some .int), Cond.fieldLink RX0 35 "PerfectPew$Displacer" "displacements" "LPerfectPew$Row;", Cond.fieldLink RX0 81 "PerfectPew$Hash" "START" "LPerfectPew$Hash;", Cond.fieldLink RX0 57 "PerfectPew$Displacer" "seed" "I", Cond.fieldLink RX0 47 "PerfectPew$Displacer" "keyCount" "I", Cond.methodLink RX0 75 yX0_bucketOf, Cond.instanceMethod yX0_bucketOf, Cond.selects RX0 yX0_bucketOf yX0_bucketOf, Cond.code yX0_bucketOf cX0_bucketOf 2 (some .int), Cond.fieldLink RX0 146 "PerfectPew$Hash" "BUCKET" "LPerfectPew$Hash;", Cond.fieldLink RX0 54 "PerfectPew$Displacer" "bucketCount" "I", Cond.instanceMethod yX3_of, Cond.initialized RX3, Cond.selects RX3 yX3_of yX3_of, Cond.code yX3_of cX3_of 3 (some .int), Cond.fieldLink RX3 43 "PerfectPew$Hash" "perKey" "J", Cond.fieldLink RX3 47 "PerfectPew$Hash" "perSeed" "J", Cond.fieldLink RX3 50 "PerfectPew$Hash" "more" "J", Cond.constantLong RX3 53 (1000003)]
def wsX7_lookUp_r2 : List Cond := [Cond.static yX7_remainder, Cond.initialized RX7, Cond.code yX7_remainder cX7_remainder 2 (some .int), Cond.instanceMethod yX6_get, Cond.initialized RX6, Cond.selects RX6 yX6_get yX6_get, Cond.code yX6_get cX6_get 2 (some .int), Cond.fieldLink RX6 13 "PerfectPew$Row" "cells" "[I", Cond.methodLink RX0 93 yX0_stepOf, Cond.instanceMethod yX0_stepOf, Cond.selects RX0 yX0_stepOf yX0_stepOf, Cond.code yX0_stepOf cX0_stepOf 2 (some .int), Cond.fieldLink RX0 149 "PerfectPew$Hash" "STEP" "LPerfectPew$Hash;", Cond.methodLink RX7 199 yX7_fingerprintOf, Cond.instanceMethod yX7_fingerprintOf, Cond.selects RX7 yX7_fingerprintOf yX7_fingerprintOf, Cond.code yX7_fingerprintOf cX7_fingerprintOf 2 (some .int), Cond.fieldLink RX7 205 "PerfectPew$Hash" "FINGERPRINT" "LPerfectPew$Hash;", Cond.fieldLink RX7 196 "PerfectPew" "fingerprintMask" "I"]
def wsX7_lookUp : List Cond := .code yX7_lookUp cX7_lookUp 3 (some .int) :: ((wsX7_lookUp_r1 ++ wsX7_lookUp_r2) ++ wsX70 ++ wsX00 ++ wsX60)
def wsX7_find_r1 : List Cond := [Cond.methodLink RX7 46 yX7_requireKey, Cond.static yX7_requireKey, Cond.initialized RX7, Cond.code yX7_requireKey cX7_requireKey 1 none, Cond.classLink RX7 94 "java/lang/IllegalArgumentException", Cond.initialized "java/lang/IllegalArgumentException", Cond.constant RX7 178 (99999), Cond.methodLink RX7 132 yX7_requireBuilt, Cond.instanceMethod yX7_requireBuilt, Cond.selects RX7 yX7_requireBuilt yX7_requireBuilt, Cond.code yX7_requireBuilt cX7_requireBuilt 1 none, Cond.classLink RX7 56 "java/lang/IllegalStateException", Cond.initialized "java/lang/IllegalStateException", Cond.fieldLink RX7 125 "PerfectPew" "built" "Z", Cond.methodLink RX7 138 yX7_lookUp, Cond.instanceMethod yX7_lookUp, Cond.selects RX7 yX7_lookUp yX7_lookUp, Cond.code yX7_lookUp cX7_lookUp 3 (some .int), Cond.fieldLink RX7 19 "PerfectPew" "displacer" "LPerfectPew$Displacer;", Cond.fieldLink RX7 42 "PerfectPew" "fingerprints" "LPerfectPew$Row;", Cond.instanceMethod yX0_numberOf, Cond.initialized RX0, Cond.selects RX0 yX0_numberOf yX0_numberOf, Cond.code yX0_numberOf cX0_numberOf 3 (some .int)]
def wsX7_find_r2 : List Cond := [Cond.fieldLink RX0 35 "PerfectPew$Displacer" "displacements" "LPerfectPew$Row;", Cond.fieldLink RX0 81 "PerfectPew$Hash" "START" "LPerfectPew$Hash;", Cond.fieldLink RX0 57 "PerfectPew$Displacer" "seed" "I", Cond.fieldLink RX0 47 "PerfectPew$Displacer" "keyCount" "I", Cond.methodLink RX0 75 yX0_bucketOf, Cond.instanceMethod yX0_bucketOf, Cond.selects RX0 yX0_bucketOf yX0_bucketOf, Cond.code yX0_bucketOf cX0_bucketOf 2 (some .int), Cond.fieldLink RX0 146 "PerfectPew$Hash" "BUCKET" "LPerfectPew$Hash;", Cond.fieldLink RX0 54 "PerfectPew$Displacer" "bucketCount" "I", Cond.instanceMethod yX3_of, Cond.initialized RX3, Cond.selects RX3 yX3_of yX3_of, Cond.code yX3_of cX3_of 3 (some .int), Cond.fieldLink RX3 43 "PerfectPew$Hash" "perKey" "J", Cond.fieldLink RX3 47 "PerfectPew$Hash" "perSeed" "J", Cond.fieldLink RX3 50 "PerfectPew$Hash" "more" "J", Cond.constantLong RX3 53 (1000003), Cond.static yX7_remainder, Cond.code yX7_remainder cX7_remainder 2 (some .int), Cond.instanceMethod yX6_get, Cond.initialized RX6, Cond.selects RX6 yX6_get yX6_get, Cond.code yX6_get cX6_get 2 (some .int)]
def wsX7_find_r3 : List Cond := [Cond.fieldLink RX6 13 "PerfectPew$Row" "cells" "[I", Cond.methodLink RX0 93 yX0_stepOf, Cond.instanceMethod yX0_stepOf, Cond.selects RX0 yX0_stepOf yX0_stepOf, Cond.code yX0_stepOf cX0_stepOf 2 (some .int), Cond.fieldLink RX0 149 "PerfectPew$Hash" "STEP" "LPerfectPew$Hash;", Cond.methodLink RX7 199 yX7_fingerprintOf, Cond.instanceMethod yX7_fingerprintOf, Cond.selects RX7 yX7_fingerprintOf yX7_fingerprintOf, Cond.code yX7_fingerprintOf cX7_fingerprintOf 2 (some .int), Cond.fieldLink RX7 205 "PerfectPew$Hash" "FINGERPRINT" "LPerfectPew$Hash;", Cond.fieldLink RX7 196 "PerfectPew" "fingerprintMask" "I"]
def wsX7_find : List Cond := .code yX7_find cX7_find 2 (some .int) :: ((wsX7_find_r1 ++ (wsX7_find_r2 ++ wsX7_find_r3)) ++ wsX70 ++ wsX00 ++ wsX60 ++ (vx_atS RX7 98 "java/lang/IllegalArgumentException" ["java/lang/RuntimeException", "java/lang/Exception"]).filter goodWord ++ (vx_atS RX7 60 "java/lang/IllegalStateException" ["java/lang/RuntimeException", "java/lang/Exception"]).filter goodWord)
def wsX7_strangers_r1 : List Cond := [Cond.classLink RX7 94 "java/lang/IllegalArgumentException", Cond.initialized "java/lang/IllegalArgumentException", Cond.fieldLink RX7 10 "PerfectPew" "sorted" "LPerfectPew$KeyList;", Cond.methodLink RX7 46 yX7_requireKey, Cond.static yX7_requireKey, Cond.initialized RX7, Cond.code yX7_requireKey cX7_requireKey 1 none, Cond.constant RX7 178 (99999), Cond.methodLink RX7 132 yX7_requireBuilt, Cond.instanceMethod yX7_requireBuilt, Cond.selects RX7 yX7_requireBuilt yX7_requireBuilt, Cond.code yX7_requireBuilt cX7_requireBuilt 1 none, Cond.classLink RX7 56 "java/lang/IllegalStateException", Cond.initialized "java/lang/IllegalStateException", Cond.fieldLink RX7 125 "PerfectPew" "built" "Z", Cond.methodLink RX7 138 yX7_lookUp, Cond.instanceMethod yX7_lookUp, Cond.selects RX7 yX7_lookUp yX7_lookUp, Cond.code yX7_lookUp cX7_lookUp 3 (some .int), Cond.fieldLink RX7 19 "PerfectPew" "displacer" "LPerfectPew$Displacer;", Cond.fieldLink RX7 42 "PerfectPew" "fingerprints" "LPerfectPew$Row;", Cond.instanceMethod yX0_numberOf, Cond.initialized RX0, Cond.selects RX0 yX0_numberOf yX0_numberOf]
def wsX7_strangers_r2 : List Cond := [Cond.code yX0_numberOf cX0_numberOf 3 (some .int), Cond.fieldLink RX0 35 "PerfectPew$Displacer" "displacements" "LPerfectPew$Row;", Cond.fieldLink RX0 81 "PerfectPew$Hash" "START" "LPerfectPew$Hash;", Cond.fieldLink RX0 57 "PerfectPew$Displacer" "seed" "I", Cond.fieldLink RX0 47 "PerfectPew$Displacer" "keyCount" "I", Cond.methodLink RX0 75 yX0_bucketOf, Cond.instanceMethod yX0_bucketOf, Cond.selects RX0 yX0_bucketOf yX0_bucketOf, Cond.code yX0_bucketOf cX0_bucketOf 2 (some .int), Cond.fieldLink RX0 146 "PerfectPew$Hash" "BUCKET" "LPerfectPew$Hash;", Cond.fieldLink RX0 54 "PerfectPew$Displacer" "bucketCount" "I", Cond.instanceMethod yX3_of, Cond.initialized RX3, Cond.selects RX3 yX3_of yX3_of, Cond.code yX3_of cX3_of 3 (some .int), Cond.fieldLink RX3 43 "PerfectPew$Hash" "perKey" "J", Cond.fieldLink RX3 47 "PerfectPew$Hash" "perSeed" "J", Cond.fieldLink RX3 50 "PerfectPew$Hash" "more" "J", Cond.constantLong RX3 53 (1000003), Cond.static yX7_remainder, Cond.code yX7_remainder cX7_remainder 2 (some .int), Cond.instanceMethod yX6_get, Cond.initialized RX6, Cond.selects RX6 yX6_get yX6_get]
def wsX7_strangers_r3 : List Cond := [Cond.code yX6_get cX6_get 2 (some .int), Cond.fieldLink RX6 13 "PerfectPew$Row" "cells" "[I", Cond.methodLink RX0 93 yX0_stepOf, Cond.instanceMethod yX0_stepOf, Cond.selects RX0 yX0_stepOf yX0_stepOf, Cond.code yX0_stepOf cX0_stepOf 2 (some .int), Cond.fieldLink RX0 149 "PerfectPew$Hash" "STEP" "LPerfectPew$Hash;", Cond.methodLink RX7 199 yX7_fingerprintOf, Cond.instanceMethod yX7_fingerprintOf, Cond.selects RX7 yX7_fingerprintOf yX7_fingerprintOf, Cond.code yX7_fingerprintOf cX7_fingerprintOf 2 (some .int), Cond.fieldLink RX7 205 "PerfectPew$Hash" "FINGERPRINT" "LPerfectPew$Hash;", Cond.fieldLink RX7 196 "PerfectPew" "fingerprintMask" "I", Cond.instanceMethod yX4_holds, Cond.initialized RX4, Cond.selects RX4 yX4_holds yX4_holds, Cond.code yX4_holds cX4_holds 3 (some .boolean), Cond.fieldLink RX4 24 "PerfectPew$KeyList" "size" "I", Cond.fieldLink RX4 14 "PerfectPew$KeyList" "places" "LPerfectPew$Row;", Cond.methodLink RX4 28 yX4_rankOf, Cond.instanceMethod yX4_rankOf, Cond.selects RX4 yX4_rankOf yX4_rankOf, Cond.code yX4_rankOf cX4_rankOf 5 (some .int)]
def wsX7_strangers : List Cond := .code yX7_strangers cX7_strangers 5 (some .int) :: ((wsX7_strangers_r1 ++ (wsX7_strangers_r2 ++ wsX7_strangers_r3)) ++ wsX70 ++ wsX00 ++ wsX60 ++ wsX40 ++ (vx_atS RX7 98 "java/lang/IllegalArgumentException" ["java/lang/RuntimeException", "java/lang/Exception"]).filter goodWord ++ (vx_atS RX7 60 "java/lang/IllegalStateException" ["java/lang/RuntimeException", "java/lang/Exception"]).filter goodWord)
def wsX7_keyOf_r1 : List Cond := [Cond.fieldLink RX7 10 "PerfectPew" "sorted" "LPerfectPew$KeyList;", Cond.methodLink RX7 132 yX7_requireBuilt, Cond.instanceMethod yX7_requireBuilt, Cond.selects RX7 yX7_requireBuilt yX7_requireBuilt, Cond.initialized RX7, Cond.code yX7_requireBuilt cX7_requireBuilt 1 none, Cond.classLink RX7 56 "java/lang/IllegalStateException", Cond.initialized "java/lang/IllegalStateException", Cond.fieldLink RX7 125 "PerfectPew" "built" "Z", Cond.methodLink RX7 86 yX7_requireBelow, Cond.static yX7_requireBelow, Cond.code yX7_requireBelow cX7_requireBelow 2 none, Cond.classLink RX7 185 "java/lang/IndexOutOfBoundsException", Cond.initialized "java/lang/IndexOutOfBoundsException", Cond.methodLink RX7 143 yX7_keyWithNumber, Cond.instanceMethod yX7_keyWithNumber, Cond.selects RX7 yX7_keyWithNumber yX7_keyWithNumber, Cond.code yX7_keyWithNumber cX7_keyWithNumber 2 (some .int), Cond.fieldLink RX7 19 "PerfectPew" "displacer" "LPerfectPew$Displacer;", Cond.instanceMethod yX6_get, Cond.initialized RX6, Cond.selects RX6 yX6_get yX6_get, Cond.code yX6_get cX6_get 2 (some .int), Cond.fieldLink RX6 13 "PerfectPew$Row" "cells" "[I"]
def wsX7_keyOf_r2 : List Cond := [Cond.instanceMethod yX4_at, Cond.initialized RX4, Cond.selects RX4 yX4_at yX4_at, Cond.code yX4_at cX4_at 2 (some .int), Cond.fieldLink RX4 14 "PerfectPew$KeyList" "places" "LPerfectPew$Row;"]
def wsX7_keyOf : List Cond := .code yX7_keyOf cX7_keyOf 2 (some .int) :: ((wsX7_keyOf_r1 ++ wsX7_keyOf_r2) ++ wsX70 ++ wsX40 ++ wsX00 ++ wsX60 ++ (vx_atS RX7 60 "java/lang/IllegalStateException" ["java/lang/RuntimeException", "java/lang/Exception"]).filter goodWord ++ (vx_atS RX7 189 "java/lang/IndexOutOfBoundsException" ["java/lang/RuntimeException", "java/lang/Exception"]).filter goodWord)
def wsX7_fingerprint : List Cond := .code yX7_fingerprint cX7_fingerprint 2 (some .int) :: ([.fieldLink RX7 10 "PerfectPew" "sorted" "LPerfectPew$KeyList;", .fieldLink RX7 42 "PerfectPew" "fingerprints" "LPerfectPew$Row;", .methodLink RX7 132 yX7_requireBuilt, .instanceMethod yX7_requireBuilt, .selects RX7 yX7_requireBuilt yX7_requireBuilt, .initialized RX7, .code yX7_requireBuilt cX7_requireBuilt 1 none, .classLink RX7 56 "java/lang/IllegalStateException", .initialized "java/lang/IllegalStateException", .fieldLink RX7 125 "PerfectPew" "built" "Z", .methodLink RX7 86 yX7_requireBelow, .static yX7_requireBelow, .code yX7_requireBelow cX7_requireBelow 2 none, .classLink RX7 185 "java/lang/IndexOutOfBoundsException", .initialized "java/lang/IndexOutOfBoundsException", .instanceMethod yX6_get, .initialized RX6, .selects RX6 yX6_get yX6_get, .code yX6_get cX6_get 2 (some .int), .fieldLink RX6 13 "PerfectPew$Row" "cells" "[I"] ++ wsX70 ++ wsX40 ++ wsX60 ++ (vx_atS RX7 60 "java/lang/IllegalStateException" ["java/lang/RuntimeException", "java/lang/Exception"]).filter goodWord ++ (vx_atS RX7 189 "java/lang/IndexOutOfBoundsException" ["java/lang/RuntimeException", "java/lang/Exception"]).filter goodWord)
def wsX7_seed : List Cond := .code yX7_seed cX7_seed 1 (some .int) :: ([.fieldLink RX7 19 "PerfectPew" "displacer" "LPerfectPew$Displacer;", .methodLink RX7 132 yX7_requireBuilt, .instanceMethod yX7_requireBuilt, .selects RX7 yX7_requireBuilt yX7_requireBuilt, .initialized RX7, .code yX7_requireBuilt cX7_requireBuilt 1 none, .classLink RX7 56 "java/lang/IllegalStateException", .initialized "java/lang/IllegalStateException", .fieldLink RX7 125 "PerfectPew" "built" "Z"] ++ wsX70 ++ wsX00 ++ (vx_atS RX7 60 "java/lang/IllegalStateException" ["java/lang/RuntimeException", "java/lang/Exception"]).filter goodWord)
def wsX7_buckets : List Cond := .code yX7_buckets cX7_buckets 1 (some .int) :: ([.fieldLink RX7 19 "PerfectPew" "displacer" "LPerfectPew$Displacer;", .methodLink RX7 132 yX7_requireBuilt, .instanceMethod yX7_requireBuilt, .selects RX7 yX7_requireBuilt yX7_requireBuilt, .initialized RX7, .code yX7_requireBuilt cX7_requireBuilt 1 none, .classLink RX7 56 "java/lang/IllegalStateException", .initialized "java/lang/IllegalStateException", .fieldLink RX7 125 "PerfectPew" "built" "Z"] ++ wsX70 ++ wsX00 ++ (vx_atS RX7 60 "java/lang/IllegalStateException" ["java/lang/RuntimeException", "java/lang/Exception"]).filter goodWord)
def wsX7_inBucket_r1 : List Cond := [Cond.fieldLink RX7 19 "PerfectPew" "displacer" "LPerfectPew$Displacer;", Cond.methodLink RX7 132 yX7_requireBuilt, Cond.instanceMethod yX7_requireBuilt, Cond.selects RX7 yX7_requireBuilt yX7_requireBuilt, Cond.initialized RX7, Cond.code yX7_requireBuilt cX7_requireBuilt 1 none, Cond.classLink RX7 56 "java/lang/IllegalStateException", Cond.initialized "java/lang/IllegalStateException", Cond.fieldLink RX7 125 "PerfectPew" "built" "Z", Cond.methodLink RX7 86 yX7_requireBelow, Cond.static yX7_requireBelow, Cond.code yX7_requireBelow cX7_requireBelow 2 none, Cond.classLink RX7 185 "java/lang/IndexOutOfBoundsException", Cond.initialized "java/lang/IndexOutOfBoundsException", Cond.instanceMethod yX2_sizeOf, Cond.initialized RX2, Cond.selects RX2 yX2_sizeOf yX2_sizeOf, Cond.code yX2_sizeOf cX2_sizeOf 2 (some .int), Cond.methodLink RX2 42 yX2_endOf, Cond.instanceMethod yX2_endOf, Cond.selects RX2 yX2_endOf yX2_endOf, Cond.code yX2_endOf cX2_endOf 2 (some .int), Cond.fieldLink RX2 18 "PerfectPew$Groups" "begins" "LPerfectPew$Row;", Cond.instanceMethod yX6_get]
def wsX7_inBucket_r2 : List Cond := [Cond.initialized RX6, Cond.selects RX6 yX6_get yX6_get, Cond.code yX6_get cX6_get 2 (some .int), Cond.fieldLink RX6 13 "PerfectPew$Row" "cells" "[I", Cond.methodLink RX2 45 yX2_beginOf, Cond.instanceMethod yX2_beginOf, Cond.selects RX2 yX2_beginOf yX2_beginOf, Cond.code yX2_beginOf cX2_beginOf 2 (some .int)]
def wsX7_inBucket : List Cond := .code yX7_inBucket cX7_inBucket 2 (some .int) :: ((wsX7_inBucket_r1 ++ wsX7_inBucket_r2) ++ wsX70 ++ wsX00 ++ wsX20 ++ wsX60 ++ (vx_atS RX7 60 "java/lang/IllegalStateException" ["java/lang/RuntimeException", "java/lang/Exception"]).filter goodWord ++ (vx_atS RX7 189 "java/lang/IndexOutOfBoundsException" ["java/lang/RuntimeException", "java/lang/Exception"]).filter goodWord)
def wsX7_displacement : List Cond := .code yX7_displacement cX7_displacement 2 (some .int) :: ([.fieldLink RX7 19 "PerfectPew" "displacer" "LPerfectPew$Displacer;", .methodLink RX7 132 yX7_requireBuilt, .instanceMethod yX7_requireBuilt, .selects RX7 yX7_requireBuilt yX7_requireBuilt, .initialized RX7, .code yX7_requireBuilt cX7_requireBuilt 1 none, .classLink RX7 56 "java/lang/IllegalStateException", .initialized "java/lang/IllegalStateException", .fieldLink RX7 125 "PerfectPew" "built" "Z", .methodLink RX7 86 yX7_requireBelow, .static yX7_requireBelow, .code yX7_requireBelow cX7_requireBelow 2 none, .classLink RX7 185 "java/lang/IndexOutOfBoundsException", .initialized "java/lang/IndexOutOfBoundsException", .instanceMethod yX6_get, .initialized RX6, .selects RX6 yX6_get yX6_get, .code yX6_get cX6_get 2 (some .int), .fieldLink RX6 13 "PerfectPew$Row" "cells" "[I"] ++ wsX70 ++ wsX00 ++ wsX60 ++ (vx_atS RX7 60 "java/lang/IllegalStateException" ["java/lang/RuntimeException", "java/lang/Exception"]).filter goodWord ++ (vx_atS RX7 189 "java/lang/IndexOutOfBoundsException" ["java/lang/RuntimeException", "java/lang/Exception"]).filter goodWord)
def wsX7_width : List Cond := .code yX7_width cX7_width 1 (some .int) :: ([.fieldLink RX7 26 "PerfectPew" "packer" "LPerfectPew$Packer;", .methodLink RX7 132 yX7_requireBuilt, .instanceMethod yX7_requireBuilt, .selects RX7 yX7_requireBuilt yX7_requireBuilt, .initialized RX7, .code yX7_requireBuilt cX7_requireBuilt 1 none, .classLink RX7 56 "java/lang/IllegalStateException", .initialized "java/lang/IllegalStateException", .fieldLink RX7 125 "PerfectPew" "built" "Z"] ++ wsX70 ++ wsX50 ++ (vx_atS RX7 60 "java/lang/IllegalStateException" ["java/lang/RuntimeException", "java/lang/Exception"]).filter goodWord)
def wsX7_word : List Cond := .code yX7_word cX7_word 2 (some .long) :: ([.fieldLink RX7 26 "PerfectPew" "packer" "LPerfectPew$Packer;", .methodLink RX7 132 yX7_requireBuilt, .instanceMethod yX7_requireBuilt, .selects RX7 yX7_requireBuilt yX7_requireBuilt, .initialized RX7, .code yX7_requireBuilt cX7_requireBuilt 1 none, .classLink RX7 56 "java/lang/IllegalStateException", .initialized "java/lang/IllegalStateException", .fieldLink RX7 125 "PerfectPew" "built" "Z", .methodLink RX7 86 yX7_requireBelow, .static yX7_requireBelow, .code yX7_requireBelow cX7_requireBelow 2 none, .classLink RX7 185 "java/lang/IndexOutOfBoundsException", .initialized "java/lang/IndexOutOfBoundsException", .instanceMethod yX5_wordAt, .initialized RX5, .selects RX5 yX5_wordAt yX5_wordAt, .code yX5_wordAt cX5_wordAt 2 (some .long), .fieldLink RX5 9 "PerfectPew$Packer" "words" "[J"] ++ wsX70 ++ wsX50 ++ (vx_atS RX7 60 "java/lang/IllegalStateException" ["java/lang/RuntimeException", "java/lang/Exception"]).filter goodWord ++ (vx_atS RX7 189 "java/lang/IndexOutOfBoundsException" ["java/lang/RuntimeException", "java/lang/Exception"]).filter goodWord)
def wsX7_byGraph_r1 : List Cond := [Cond.fieldLink RX7 33 "PerfectPew" "graph" "LPerfectPew$Graph;", Cond.methodLink RX7 46 yX7_requireKey, Cond.static yX7_requireKey, Cond.initialized RX7, Cond.code yX7_requireKey cX7_requireKey 1 none, Cond.classLink RX7 94 "java/lang/IllegalArgumentException", Cond.initialized "java/lang/IllegalArgumentException", Cond.constant RX7 178 (99999), Cond.methodLink RX7 132 yX7_requireBuilt, Cond.instanceMethod yX7_requireBuilt, Cond.selects RX7 yX7_requireBuilt yX7_requireBuilt, Cond.code yX7_requireBuilt cX7_requireBuilt 1 none, Cond.classLink RX7 56 "java/lang/IllegalStateException", Cond.initialized "java/lang/IllegalStateException", Cond.fieldLink RX7 125 "PerfectPew" "built" "Z", Cond.instanceMethod yX1_sumFor, Cond.initialized RX1, Cond.selects RX1 yX1_sumFor yX1_sumFor, Cond.code yX1_sumFor cX1_sumFor 4 (some .int), Cond.fieldLink RX1 29 "PerfectPew$Graph" "values" "LPerfectPew$Row;", Cond.fieldLink RX1 65 "PerfectPew$Hash" "ONE_END" "LPerfectPew$Hash;", Cond.fieldLink RX1 78 "PerfectPew$Hash" "OTHER_END" "LPerfectPew$Hash;", Cond.fieldLink RX1 41 "PerfectPew$Graph" "keyCount" "I", Cond.methodLink RX1 71 yX1_vertexOf]
def wsX7_byGraph_r2 : List Cond := [Cond.instanceMethod yX1_vertexOf, Cond.selects RX1 yX1_vertexOf yX1_vertexOf, Cond.code yX1_vertexOf cX1_vertexOf 3 (some .int), Cond.fieldLink RX1 47 "PerfectPew$Graph" "seed" "I", Cond.fieldLink RX1 44 "PerfectPew$Graph" "vertexCount" "I", Cond.instanceMethod yX3_of, Cond.initialized RX3, Cond.selects RX3 yX3_of yX3_of, Cond.code yX3_of cX3_of 3 (some .int), Cond.fieldLink RX3 43 "PerfectPew$Hash" "perKey" "J", Cond.fieldLink RX3 47 "PerfectPew$Hash" "perSeed" "J", Cond.fieldLink RX3 50 "PerfectPew$Hash" "more" "J", Cond.constantLong RX3 53 (1000003), Cond.static yX7_remainder, Cond.code yX7_remainder cX7_remainder 2 (some .int), Cond.instanceMethod yX6_get, Cond.initialized RX6, Cond.selects RX6 yX6_get yX6_get, Cond.code yX6_get cX6_get 2 (some .int), Cond.fieldLink RX6 13 "PerfectPew$Row" "cells" "[I"]
def wsX7_byGraph : List Cond := .code yX7_byGraph cX7_byGraph 2 (some .int) :: ((wsX7_byGraph_r1 ++ wsX7_byGraph_r2) ++ wsX70 ++ wsX10 ++ wsX60 ++ (vx_atS RX7 98 "java/lang/IllegalArgumentException" ["java/lang/RuntimeException", "java/lang/Exception"]).filter goodWord ++ (vx_atS RX7 60 "java/lang/IllegalStateException" ["java/lang/RuntimeException", "java/lang/Exception"]).filter goodWord)
def wsX7_graphSeed : List Cond := .code yX7_graphSeed cX7_graphSeed 1 (some .int) :: ([.fieldLink RX7 33 "PerfectPew" "graph" "LPerfectPew$Graph;", .methodLink RX7 132 yX7_requireBuilt, .instanceMethod yX7_requireBuilt, .selects RX7 yX7_requireBuilt yX7_requireBuilt, .initialized RX7, .code yX7_requireBuilt cX7_requireBuilt 1 none, .classLink RX7 56 "java/lang/IllegalStateException", .initialized "java/lang/IllegalStateException", .fieldLink RX7 125 "PerfectPew" "built" "Z"] ++ wsX70 ++ wsX10 ++ (vx_atS RX7 60 "java/lang/IllegalStateException" ["java/lang/RuntimeException", "java/lang/Exception"]).filter goodWord)
def wsX7_valueOf : List Cond := .code yX7_valueOf cX7_valueOf 2 (some .int) :: ([.fieldLink RX7 33 "PerfectPew" "graph" "LPerfectPew$Graph;", .methodLink RX7 132 yX7_requireBuilt, .instanceMethod yX7_requireBuilt, .selects RX7 yX7_requireBuilt yX7_requireBuilt, .initialized RX7, .code yX7_requireBuilt cX7_requireBuilt 1 none, .classLink RX7 56 "java/lang/IllegalStateException", .initialized "java/lang/IllegalStateException", .fieldLink RX7 125 "PerfectPew" "built" "Z", .methodLink RX7 86 yX7_requireBelow, .static yX7_requireBelow, .code yX7_requireBelow cX7_requireBelow 2 none, .classLink RX7 185 "java/lang/IndexOutOfBoundsException", .initialized "java/lang/IndexOutOfBoundsException", .instanceMethod yX6_get, .initialized RX6, .selects RX6 yX6_get yX6_get, .code yX6_get cX6_get 2 (some .int), .fieldLink RX6 13 "PerfectPew$Row" "cells" "[I"] ++ wsX70 ++ wsX10 ++ wsX60 ++ (vx_atS RX7 60 "java/lang/IllegalStateException" ["java/lang/RuntimeException", "java/lang/Exception"]).filter goodWord ++ (vx_atS RX7 189 "java/lang/IndexOutOfBoundsException" ["java/lang/RuntimeException", "java/lang/Exception"]).filter goodWord)
def wsX8_init : List Cond := .code yX8_init cX8_init 1 none :: ([.methodLink RX8 1 objectInit, .instanceMethod objectInit, .code objectInit ⟨#[0xb1]⟩ 1 none, .arrayClass .int, .fieldLink RX8 7 "PerfectPewModel" "keys" "[I", .fieldLink RX8 13 "PerfectPewModel" "sizes" "[I", .fieldLink RX8 16 "PerfectPewModel" "shift" "[I", .fieldLink RX8 19 "PerfectPewModel" "owner" "[I", .fieldLink RX8 22 "PerfectPewModel" "prints" "[I", .fieldLink RX8 25 "PerfectPewModel" "some" "[I", .fieldLink RX8 28 "PerfectPewModel" "triedShift" "[I", .fieldLink RX8 31 "PerfectPewModel" "triedOwner" "[I", .arrayClass .long, .fieldLink RX8 34 "PerfectPewModel" "words" "[J", .fieldLink RX8 38 "PerfectPewModel" "values" "[I", .fieldLink RX8 41 "PerfectPewModel" "roots" "[I", .fieldLink RX8 44 "PerfectPewModel" "ends" "[I"] ++ wsX80)
def wsX8_thrown : List Cond := .code yX8_thrown cX8_thrown 1 (some .int) :: ([.fieldLink RX8 47 "PerfectPewModel" "thrown" "I"] ++ wsX80)
def wsX8_fails : List Cond := .code yX8_fails cX8_fails 2 (some .int) :: ([.fieldLink RX8 47 "PerfectPewModel" "thrown" "I"] ++ wsX80)
def wsX8_in : List Cond := .code yX8_in cX8_in 3 (some .boolean) :: ([])
def wsX8_first : List Cond := .code yX8_first cX8_first 1 (some .long) :: ([.constantLong RX8 51 (9973), .constantLong RX8 53 (104729), .constantLong RX8 55 (31337), .constantLong RX8 57 (611953), .constantLong RX8 59 (86243), .constantLong RX8 61 (756839)])
def wsX8_second : List Cond := .code yX8_second cX8_second 1 (some .long) :: ([.constantLong RX8 63 (7919), .constantLong RX8 65 (15485), .constantLong RX8 67 (27644), .constantLong RX8 69 (39916), .constantLong RX8 71 (65537), .constantLong RX8 73 (44497)])
def wsX8_third : List Cond := .code yX8_third cX8_third 1 (some .long) :: ([.constantLong RX8 75 (11), .constantLong RX8 77 (101), .constantLong RX8 79 (1009), .constantLong RX8 81 (10007), .constantLong RX8 83 (313), .constantLong RX8 85 (2203)])
def wsX8_hash_r1 : List Cond := [Cond.constantLong RX8 97 (1000003), Cond.methodLink RX8 87 yX8_first, Cond.static yX8_first, Cond.initialized RX8, Cond.code yX8_first cX8_first 1 (some .long), Cond.constantLong RX8 51 (9973), Cond.constantLong RX8 53 (104729), Cond.constantLong RX8 55 (31337), Cond.constantLong RX8 57 (611953), Cond.constantLong RX8 59 (86243), Cond.constantLong RX8 61 (756839), Cond.methodLink RX8 91 yX8_second, Cond.static yX8_second, Cond.code yX8_second cX8_second 1 (some .long), Cond.constantLong RX8 63 (7919), Cond.constantLong RX8 65 (15485), Cond.constantLong RX8 67 (27644), Cond.constantLong RX8 69 (39916), Cond.constantLong RX8 71 (65537), Cond.constantLong RX8 73 (44497), Cond.methodLink RX8 94 yX8_third, Cond.static yX8_third, Cond.code yX8_third cX8_third 1 (some .long), Cond.constantLong RX8 75 (11)]
def wsX8_hash_r2 : List Cond := [Cond.constantLong RX8 77 (101), Cond.constantLong RX8 79 (1009), Cond.constantLong RX8 81 (10007), Cond.constantLong RX8 83 (313), Cond.constantLong RX8 85 (2203)]
def wsX8_hash : List Cond := .code yX8_hash cX8_hash 3 (some .int) :: ((wsX8_hash_r1 ++ wsX8_hash_r2))
def wsX8_below : List Cond := .code yX8_below cX8_below 3 (some .int) :: ([.fieldLink RX8 99 "PerfectPewModel" "many" "I", .fieldLink RX8 7 "PerfectPewModel" "keys" "[I"] ++ wsX80)
def wsX8_is : List Cond := .code yX8_is cX8_is 3 (some .boolean) :: ([.fieldLink RX8 99 "PerfectPewModel" "many" "I", .fieldLink RX8 7 "PerfectPewModel" "keys" "[I", .methodLink RX8 102 yX8_below, .instanceMethod yX8_below, .selects RX8 yX8_below yX8_below, .initialized RX8, .code yX8_below cX8_below 3 (some .int)] ++ wsX80)
def wsX8_put : List Cond := .code yX8_put cX8_put 4 none :: ([.fieldLink RX8 99 "PerfectPewModel" "many" "I", .fieldLink RX8 7 "PerfectPewModel" "keys" "[I", .methodLink RX8 102 yX8_below, .instanceMethod yX8_below, .selects RX8 yX8_below yX8_below, .initialized RX8, .code yX8_below cX8_below 3 (some .int)] ++ wsX80)
def wsX8_add_r1 : List Cond := [Cond.fieldLink RX8 47 "PerfectPewModel" "thrown" "I", Cond.constant RX8 106 (99999), Cond.fieldLink RX8 114 "PerfectPewModel" "built" "Z", Cond.fieldLink RX8 99 "PerfectPewModel" "many" "I", Cond.methodLink RX8 107 yX8_in, Cond.static yX8_in, Cond.initialized RX8, Cond.code yX8_in cX8_in 3 (some .boolean), Cond.methodLink RX8 111 yX8_fails, Cond.instanceMethod yX8_fails, Cond.selects RX8 yX8_fails yX8_fails, Cond.code yX8_fails cX8_fails 2 (some .int), Cond.methodLink RX8 118 yX8_is, Cond.instanceMethod yX8_is, Cond.selects RX8 yX8_is yX8_is, Cond.code yX8_is cX8_is 3 (some .boolean), Cond.fieldLink RX8 7 "PerfectPewModel" "keys" "[I", Cond.methodLink RX8 102 yX8_below, Cond.instanceMethod yX8_below, Cond.selects RX8 yX8_below yX8_below, Cond.code yX8_below cX8_below 3 (some .int), Cond.methodLink RX8 122 yX8_put, Cond.instanceMethod yX8_put, Cond.selects RX8 yX8_put yX8_put]
def wsX8_add_r2 : List Cond := [Cond.code yX8_put cX8_put 4 none]
def wsX8_add : List Cond := .code yX8_add cX8_add 2 (some .int) :: ((wsX8_add_r1 ++ wsX8_add_r2) ++ wsX80)
def wsX8_addLine_r1 : List Cond := [Cond.fieldLink RX8 47 "PerfectPewModel" "thrown" "I", Cond.constant RX8 106 (99999), Cond.fieldLink RX8 114 "PerfectPewModel" "built" "Z", Cond.fieldLink RX8 99 "PerfectPewModel" "many" "I", Cond.methodLink RX8 107 yX8_in, Cond.static yX8_in, Cond.initialized RX8, Cond.code yX8_in cX8_in 3 (some .boolean), Cond.methodLink RX8 111 yX8_fails, Cond.instanceMethod yX8_fails, Cond.selects RX8 yX8_fails yX8_fails, Cond.code yX8_fails cX8_fails 2 (some .int), Cond.methodLink RX8 118 yX8_is, Cond.instanceMethod yX8_is, Cond.selects RX8 yX8_is yX8_is, Cond.code yX8_is cX8_is 3 (some .boolean), Cond.fieldLink RX8 7 "PerfectPewModel" "keys" "[I", Cond.methodLink RX8 102 yX8_below, Cond.instanceMethod yX8_below, Cond.selects RX8 yX8_below yX8_below, Cond.code yX8_below cX8_below 3 (some .int), Cond.methodLink RX8 122 yX8_put, Cond.instanceMethod yX8_put, Cond.selects RX8 yX8_put yX8_put]
def wsX8_addLine_r2 : List Cond := [Cond.code yX8_put cX8_put 4 none]
def wsX8_addLine : List Cond := .code yX8_addLine cX8_addLine 6 (some .int) :: ((wsX8_addLine_r1 ++ wsX8_addLine_r2) ++ wsX80)
def wsX8_remove : List Cond := .code yX8_remove cX8_remove 3 (some .int) :: ([.fieldLink RX8 47 "PerfectPewModel" "thrown" "I", .constant RX8 106 (99999), .fieldLink RX8 114 "PerfectPewModel" "built" "Z", .fieldLink RX8 99 "PerfectPewModel" "many" "I", .fieldLink RX8 7 "PerfectPewModel" "keys" "[I", .methodLink RX8 107 yX8_in, .static yX8_in, .initialized RX8, .code yX8_in cX8_in 3 (some .boolean), .methodLink RX8 111 yX8_fails, .instanceMethod yX8_fails, .selects RX8 yX8_fails yX8_fails, .code yX8_fails cX8_fails 2 (some .int), .methodLink RX8 118 yX8_is, .instanceMethod yX8_is, .selects RX8 yX8_is yX8_is, .code yX8_is cX8_is 3 (some .boolean), .methodLink RX8 102 yX8_below, .instanceMethod yX8_below, .selects RX8 yX8_below yX8_below, .code yX8_below cX8_below 3 (some .int)] ++ wsX80)
def wsX8_keys : List Cond := .code yX8_keys cX8_keys 1 (some .int) :: ([.fieldLink RX8 47 "PerfectPewModel" "thrown" "I", .fieldLink RX8 99 "PerfectPewModel" "many" "I"] ++ wsX80)
def wsX8_has : List Cond := .code yX8_has cX8_has 2 (some .boolean) :: ([.fieldLink RX8 47 "PerfectPewModel" "thrown" "I", .constant RX8 106 (99999), .methodLink RX8 107 yX8_in, .static yX8_in, .initialized RX8, .code yX8_in cX8_in 3 (some .boolean), .methodLink RX8 111 yX8_fails, .instanceMethod yX8_fails, .selects RX8 yX8_fails yX8_fails, .code yX8_fails cX8_fails 2 (some .int), .methodLink RX8 118 yX8_is, .instanceMethod yX8_is, .selects RX8 yX8_is yX8_is, .code yX8_is cX8_is 3 (some .boolean), .fieldLink RX8 99 "PerfectPewModel" "many" "I", .fieldLink RX8 7 "PerfectPewModel" "keys" "[I", .methodLink RX8 102 yX8_below, .instanceMethod yX8_below, .selects RX8 yX8_below yX8_below, .code yX8_below cX8_below 3 (some .int)] ++ wsX80)
def wsX8_keyAt : List Cond := .code yX8_keyAt cX8_keyAt 2 (some .int) :: ([.fieldLink RX8 47 "PerfectPewModel" "thrown" "I", .fieldLink RX8 99 "PerfectPewModel" "many" "I", .fieldLink RX8 7 "PerfectPewModel" "keys" "[I", .methodLink RX8 107 yX8_in, .static yX8_in, .initialized RX8, .code yX8_in cX8_in 3 (some .boolean), .methodLink RX8 111 yX8_fails, .instanceMethod yX8_fails, .selects RX8 yX8_fails yX8_fails, .code yX8_fails cX8_fails 2 (some .int)] ++ wsX80)
def wsX8_stepOf_r1 : List Cond := [Cond.methodLink RX8 126 yX8_hash, Cond.static yX8_hash, Cond.initialized RX8, Cond.code yX8_hash cX8_hash 3 (some .int), Cond.constantLong RX8 97 (1000003), Cond.methodLink RX8 87 yX8_first, Cond.static yX8_first, Cond.code yX8_first cX8_first 1 (some .long), Cond.constantLong RX8 51 (9973), Cond.constantLong RX8 53 (104729), Cond.constantLong RX8 55 (31337), Cond.constantLong RX8 57 (611953), Cond.constantLong RX8 59 (86243), Cond.constantLong RX8 61 (756839), Cond.methodLink RX8 91 yX8_second, Cond.static yX8_second, Cond.code yX8_second cX8_second 1 (some .long), Cond.constantLong RX8 63 (7919), Cond.constantLong RX8 65 (15485), Cond.constantLong RX8 67 (27644), Cond.constantLong RX8 69 (39916), Cond.constantLong RX8 71 (65537), Cond.constantLong RX8 73 (44497), Cond.methodLink RX8 94 yX8_third]
def wsX8_stepOf_r2 : List Cond := [Cond.static yX8_third, Cond.code yX8_third cX8_third 1 (some .long), Cond.constantLong RX8 75 (11), Cond.constantLong RX8 77 (101), Cond.constantLong RX8 79 (1009), Cond.constantLong RX8 81 (10007), Cond.constantLong RX8 83 (313), Cond.constantLong RX8 85 (2203)]
def wsX8_stepOf : List Cond := .code yX8_stepOf cX8_stepOf 3 (some .int) :: ((wsX8_stepOf_r1 ++ wsX8_stepOf_r2))
def wsX8_place_r1 : List Cond := [Cond.methodLink RX8 126 yX8_hash, Cond.static yX8_hash, Cond.initialized RX8, Cond.code yX8_hash cX8_hash 3 (some .int), Cond.constantLong RX8 97 (1000003), Cond.methodLink RX8 87 yX8_first, Cond.static yX8_first, Cond.code yX8_first cX8_first 1 (some .long), Cond.constantLong RX8 51 (9973), Cond.constantLong RX8 53 (104729), Cond.constantLong RX8 55 (31337), Cond.constantLong RX8 57 (611953), Cond.constantLong RX8 59 (86243), Cond.constantLong RX8 61 (756839), Cond.methodLink RX8 91 yX8_second, Cond.static yX8_second, Cond.code yX8_second cX8_second 1 (some .long), Cond.constantLong RX8 63 (7919), Cond.constantLong RX8 65 (15485), Cond.constantLong RX8 67 (27644), Cond.constantLong RX8 69 (39916), Cond.constantLong RX8 71 (65537), Cond.constantLong RX8 73 (44497), Cond.methodLink RX8 94 yX8_third]
def wsX8_place_r2 : List Cond := [Cond.static yX8_third, Cond.code yX8_third cX8_third 1 (some .long), Cond.constantLong RX8 75 (11), Cond.constantLong RX8 77 (101), Cond.constantLong RX8 79 (1009), Cond.constantLong RX8 81 (10007), Cond.constantLong RX8 83 (313), Cond.constantLong RX8 85 (2203), Cond.methodLink RX8 130 yX8_stepOf, Cond.static yX8_stepOf, Cond.code yX8_stepOf cX8_stepOf 3 (some .int)]
def wsX8_place : List Cond := .code yX8_place cX8_place 4 (some .int) :: ((wsX8_place_r1 ++ wsX8_place_r2))
def wsX8_gather_r1 : List Cond := [Cond.fieldLink RX8 99 "PerfectPewModel" "many" "I", Cond.fieldLink RX8 7 "PerfectPewModel" "keys" "[I", Cond.fieldLink RX8 25 "PerfectPewModel" "some" "[I", Cond.methodLink RX8 126 yX8_hash, Cond.static yX8_hash, Cond.initialized RX8, Cond.code yX8_hash cX8_hash 3 (some .int), Cond.constantLong RX8 97 (1000003), Cond.methodLink RX8 87 yX8_first, Cond.static yX8_first, Cond.code yX8_first cX8_first 1 (some .long), Cond.constantLong RX8 51 (9973), Cond.constantLong RX8 53 (104729), Cond.constantLong RX8 55 (31337), Cond.constantLong RX8 57 (611953), Cond.constantLong RX8 59 (86243), Cond.constantLong RX8 61 (756839), Cond.methodLink RX8 91 yX8_second, Cond.static yX8_second, Cond.code yX8_second cX8_second 1 (some .long), Cond.constantLong RX8 63 (7919), Cond.constantLong RX8 65 (15485), Cond.constantLong RX8 67 (27644), Cond.constantLong RX8 69 (39916)]
def wsX8_gather_r2 : List Cond := [Cond.constantLong RX8 71 (65537), Cond.constantLong RX8 73 (44497), Cond.methodLink RX8 94 yX8_third, Cond.static yX8_third, Cond.code yX8_third cX8_third 1 (some .long), Cond.constantLong RX8 75 (11), Cond.constantLong RX8 77 (101), Cond.constantLong RX8 79 (1009), Cond.constantLong RX8 81 (10007), Cond.constantLong RX8 83 (313), Cond.constantLong RX8 85 (2203)]
def wsX8_gather : List Cond := .code yX8_gather cX8_gather 6 (some .int) :: ((wsX8_gather_r1 ++ wsX8_gather_r2) ++ wsX80)
def wsX8_goes_r1 : List Cond := [Cond.fieldLink RX8 25 "PerfectPewModel" "some" "[I", Cond.fieldLink RX8 99 "PerfectPewModel" "many" "I", Cond.fieldLink RX8 31 "PerfectPewModel" "triedOwner" "[I", Cond.methodLink RX8 133 yX8_place, Cond.static yX8_place, Cond.initialized RX8, Cond.code yX8_place cX8_place 4 (some .int), Cond.methodLink RX8 126 yX8_hash, Cond.static yX8_hash, Cond.code yX8_hash cX8_hash 3 (some .int), Cond.constantLong RX8 97 (1000003), Cond.methodLink RX8 87 yX8_first, Cond.static yX8_first, Cond.code yX8_first cX8_first 1 (some .long), Cond.constantLong RX8 51 (9973), Cond.constantLong RX8 53 (104729), Cond.constantLong RX8 55 (31337), Cond.constantLong RX8 57 (611953), Cond.constantLong RX8 59 (86243), Cond.constantLong RX8 61 (756839), Cond.methodLink RX8 91 yX8_second, Cond.static yX8_second, Cond.code yX8_second cX8_second 1 (some .long), Cond.constantLong RX8 63 (7919)]
def wsX8_goes_r2 : List Cond := [Cond.constantLong RX8 65 (15485), Cond.constantLong RX8 67 (27644), Cond.constantLong RX8 69 (39916), Cond.constantLong RX8 71 (65537), Cond.constantLong RX8 73 (44497), Cond.methodLink RX8 94 yX8_third, Cond.static yX8_third, Cond.code yX8_third cX8_third 1 (some .long), Cond.constantLong RX8 75 (11), Cond.constantLong RX8 77 (101), Cond.constantLong RX8 79 (1009), Cond.constantLong RX8 81 (10007), Cond.constantLong RX8 83 (313), Cond.constantLong RX8 85 (2203), Cond.methodLink RX8 130 yX8_stepOf, Cond.static yX8_stepOf, Cond.code yX8_stepOf cX8_stepOf 3 (some .int)]
def wsX8_goes : List Cond := .code yX8_goes cX8_goes 8 (some .boolean) :: ((wsX8_goes_r1 ++ wsX8_goes_r2) ++ wsX80)
def wsX8_lays_r1 : List Cond := [Cond.fieldLink RX8 28 "PerfectPewModel" "triedShift" "[I", Cond.fieldLink RX8 31 "PerfectPewModel" "triedOwner" "[I", Cond.fieldLink RX8 25 "PerfectPewModel" "some" "[I", Cond.fieldLink RX8 99 "PerfectPewModel" "many" "I", Cond.methodLink RX8 137 yX8_gather, Cond.instanceMethod yX8_gather, Cond.selects RX8 yX8_gather yX8_gather, Cond.initialized RX8, Cond.code yX8_gather cX8_gather 6 (some .int), Cond.fieldLink RX8 7 "PerfectPewModel" "keys" "[I", Cond.methodLink RX8 126 yX8_hash, Cond.static yX8_hash, Cond.code yX8_hash cX8_hash 3 (some .int), Cond.constantLong RX8 97 (1000003), Cond.methodLink RX8 87 yX8_first, Cond.static yX8_first, Cond.code yX8_first cX8_first 1 (some .long), Cond.constantLong RX8 51 (9973), Cond.constantLong RX8 53 (104729), Cond.constantLong RX8 55 (31337), Cond.constantLong RX8 57 (611953), Cond.constantLong RX8 59 (86243), Cond.constantLong RX8 61 (756839), Cond.methodLink RX8 91 yX8_second]
def wsX8_lays_r2 : List Cond := [Cond.static yX8_second, Cond.code yX8_second cX8_second 1 (some .long), Cond.constantLong RX8 63 (7919), Cond.constantLong RX8 65 (15485), Cond.constantLong RX8 67 (27644), Cond.constantLong RX8 69 (39916), Cond.constantLong RX8 71 (65537), Cond.constantLong RX8 73 (44497), Cond.methodLink RX8 94 yX8_third, Cond.static yX8_third, Cond.code yX8_third cX8_third 1 (some .long), Cond.constantLong RX8 75 (11), Cond.constantLong RX8 77 (101), Cond.constantLong RX8 79 (1009), Cond.constantLong RX8 81 (10007), Cond.constantLong RX8 83 (313), Cond.constantLong RX8 85 (2203), Cond.methodLink RX8 140 yX8_goes, Cond.instanceMethod yX8_goes, Cond.selects RX8 yX8_goes yX8_goes, Cond.code yX8_goes cX8_goes 8 (some .boolean), Cond.methodLink RX8 133 yX8_place, Cond.static yX8_place, Cond.code yX8_place cX8_place 4 (some .int)]
def wsX8_lays_r3 : List Cond := [Cond.methodLink RX8 130 yX8_stepOf, Cond.static yX8_stepOf, Cond.code yX8_stepOf cX8_stepOf 3 (some .int)]
def wsX8_lays : List Cond := .code yX8_lays cX8_lays 7 (some .boolean) :: ((wsX8_lays_r1 ++ (wsX8_lays_r2 ++ wsX8_lays_r3)) ++ wsX80)
def wsX8_displaces_r1 : List Cond := [Cond.fieldLink RX8 31 "PerfectPewModel" "triedOwner" "[I", Cond.fieldLink RX8 28 "PerfectPewModel" "triedShift" "[I", Cond.methodLink RX8 137 yX8_gather, Cond.instanceMethod yX8_gather, Cond.selects RX8 yX8_gather yX8_gather, Cond.initialized RX8, Cond.code yX8_gather cX8_gather 6 (some .int), Cond.fieldLink RX8 99 "PerfectPewModel" "many" "I", Cond.fieldLink RX8 7 "PerfectPewModel" "keys" "[I", Cond.fieldLink RX8 25 "PerfectPewModel" "some" "[I", Cond.methodLink RX8 126 yX8_hash, Cond.static yX8_hash, Cond.code yX8_hash cX8_hash 3 (some .int), Cond.constantLong RX8 97 (1000003), Cond.methodLink RX8 87 yX8_first, Cond.static yX8_first, Cond.code yX8_first cX8_first 1 (some .long), Cond.constantLong RX8 51 (9973), Cond.constantLong RX8 53 (104729), Cond.constantLong RX8 55 (31337), Cond.constantLong RX8 57 (611953), Cond.constantLong RX8 59 (86243), Cond.constantLong RX8 61 (756839), Cond.methodLink RX8 91 yX8_second]
def wsX8_displaces_r2 : List Cond := [Cond.static yX8_second, Cond.code yX8_second cX8_second 1 (some .long), Cond.constantLong RX8 63 (7919), Cond.constantLong RX8 65 (15485), Cond.constantLong RX8 67 (27644), Cond.constantLong RX8 69 (39916), Cond.constantLong RX8 71 (65537), Cond.constantLong RX8 73 (44497), Cond.methodLink RX8 94 yX8_third, Cond.static yX8_third, Cond.code yX8_third cX8_third 1 (some .long), Cond.constantLong RX8 75 (11), Cond.constantLong RX8 77 (101), Cond.constantLong RX8 79 (1009), Cond.constantLong RX8 81 (10007), Cond.constantLong RX8 83 (313), Cond.constantLong RX8 85 (2203), Cond.methodLink RX8 143 yX8_lays, Cond.instanceMethod yX8_lays, Cond.selects RX8 yX8_lays yX8_lays, Cond.code yX8_lays cX8_lays 7 (some .boolean), Cond.methodLink RX8 140 yX8_goes, Cond.instanceMethod yX8_goes, Cond.selects RX8 yX8_goes yX8_goes]
def wsX8_displaces_r3 : List Cond := [Cond.code yX8_goes cX8_goes 8 (some .boolean), Cond.methodLink RX8 133 yX8_place, Cond.static yX8_place, Cond.code yX8_place cX8_place 4 (some .int), Cond.methodLink RX8 130 yX8_stepOf, Cond.static yX8_stepOf, Cond.code yX8_stepOf cX8_stepOf 3 (some .int)]
def wsX8_displaces : List Cond := .code yX8_displaces cX8_displaces 7 (some .boolean) :: ((wsX8_displaces_r1 ++ (wsX8_displaces_r2 ++ wsX8_displaces_r3)) ++ wsX80)
def wsX8_root : List Cond := .code yX8_root cX8_root 3 (some .int) :: ([.fieldLink RX8 41 "PerfectPewModel" "roots" "[I"] ++ wsX80)
def wsX8_hasNoCircle_r1 : List Cond := [Cond.fieldLink RX8 99 "PerfectPewModel" "many" "I", Cond.fieldLink RX8 41 "PerfectPewModel" "roots" "[I", Cond.fieldLink RX8 44 "PerfectPewModel" "ends" "[I", Cond.fieldLink RX8 7 "PerfectPewModel" "keys" "[I", Cond.methodLink RX8 126 yX8_hash, Cond.static yX8_hash, Cond.initialized RX8, Cond.code yX8_hash cX8_hash 3 (some .int), Cond.constantLong RX8 97 (1000003), Cond.methodLink RX8 87 yX8_first, Cond.static yX8_first, Cond.code yX8_first cX8_first 1 (some .long), Cond.constantLong RX8 51 (9973), Cond.constantLong RX8 53 (104729), Cond.constantLong RX8 55 (31337), Cond.constantLong RX8 57 (611953), Cond.constantLong RX8 59 (86243), Cond.constantLong RX8 61 (756839), Cond.methodLink RX8 91 yX8_second, Cond.static yX8_second, Cond.code yX8_second cX8_second 1 (some .long), Cond.constantLong RX8 63 (7919), Cond.constantLong RX8 65 (15485), Cond.constantLong RX8 67 (27644)]
def wsX8_hasNoCircle_r2 : List Cond := [Cond.constantLong RX8 69 (39916), Cond.constantLong RX8 71 (65537), Cond.constantLong RX8 73 (44497), Cond.methodLink RX8 94 yX8_third, Cond.static yX8_third, Cond.code yX8_third cX8_third 1 (some .long), Cond.constantLong RX8 75 (11), Cond.constantLong RX8 77 (101), Cond.constantLong RX8 79 (1009), Cond.constantLong RX8 81 (10007), Cond.constantLong RX8 83 (313), Cond.constantLong RX8 85 (2203), Cond.methodLink RX8 146 yX8_root, Cond.instanceMethod yX8_root, Cond.selects RX8 yX8_root yX8_root, Cond.code yX8_root cX8_root 3 (some .int)]
def wsX8_hasNoCircle : List Cond := .code yX8_hasNoCircle cX8_hasNoCircle 6 (some .boolean) :: ((wsX8_hasNoCircle_r1 ++ wsX8_hasNoCircle_r2) ++ wsX80)
def wsX8_layValues : List Cond := .code yX8_layValues cX8_layValues 5 none :: ([.fieldLink RX8 99 "PerfectPewModel" "many" "I", .fieldLink RX8 38 "PerfectPewModel" "values" "[I", .fieldLink RX8 44 "PerfectPewModel" "ends" "[I", .methodLink RX8 146 yX8_root, .instanceMethod yX8_root, .selects RX8 yX8_root yX8_root, .initialized RX8, .code yX8_root cX8_root 3 (some .int), .fieldLink RX8 41 "PerfectPewModel" "roots" "[I"] ++ wsX80)
def wsX8_pack : List Cond := .code yX8_pack cX8_pack 5 none :: ([.fieldLink RX8 149 "PerfectPewModel" "bucketMany" "I", .fieldLink RX8 16 "PerfectPewModel" "shift" "[I", .fieldLink RX8 152 "PerfectPewModel" "width" "I", .fieldLink RX8 34 "PerfectPewModel" "words" "[J"] ++ wsX80)
def wsX8_print_r1 : List Cond := [Cond.fieldLink RX8 162 "PerfectPewModel" "seed" "I", Cond.fieldLink RX8 168 "PerfectPewModel" "bits" "I", Cond.methodLink RX8 126 yX8_hash, Cond.static yX8_hash, Cond.initialized RX8, Cond.code yX8_hash cX8_hash 3 (some .int), Cond.constantLong RX8 97 (1000003), Cond.methodLink RX8 87 yX8_first, Cond.static yX8_first, Cond.code yX8_first cX8_first 1 (some .long), Cond.constantLong RX8 51 (9973), Cond.constantLong RX8 53 (104729), Cond.constantLong RX8 55 (31337), Cond.constantLong RX8 57 (611953), Cond.constantLong RX8 59 (86243), Cond.constantLong RX8 61 (756839), Cond.methodLink RX8 91 yX8_second, Cond.static yX8_second, Cond.code yX8_second cX8_second 1 (some .long), Cond.constantLong RX8 63 (7919), Cond.constantLong RX8 65 (15485), Cond.constantLong RX8 67 (27644), Cond.constantLong RX8 69 (39916), Cond.constantLong RX8 71 (65537)]
def wsX8_print_r2 : List Cond := [Cond.constantLong RX8 73 (44497), Cond.methodLink RX8 94 yX8_third, Cond.static yX8_third, Cond.code yX8_third cX8_third 1 (some .long), Cond.constantLong RX8 75 (11), Cond.constantLong RX8 77 (101), Cond.constantLong RX8 79 (1009), Cond.constantLong RX8 81 (10007), Cond.constantLong RX8 83 (313), Cond.constantLong RX8 85 (2203)]
def wsX8_print : List Cond := .code yX8_print cX8_print 2 (some .int) :: ((wsX8_print_r1 ++ wsX8_print_r2) ++ wsX80)
def wsX8_build_r1 : List Cond := [Cond.fieldLink RX8 47 "PerfectPewModel" "thrown" "I", Cond.fieldLink RX8 114 "PerfectPewModel" "built" "Z", Cond.fieldLink RX8 99 "PerfectPewModel" "many" "I", Cond.fieldLink RX8 162 "PerfectPewModel" "seed" "I", Cond.fieldLink RX8 165 "PerfectPewModel" "graphSeed" "I", Cond.fieldLink RX8 168 "PerfectPewModel" "bits" "I", Cond.fieldLink RX8 149 "PerfectPewModel" "bucketMany" "I", Cond.fieldLink RX8 13 "PerfectPewModel" "sizes" "[I", Cond.fieldLink RX8 16 "PerfectPewModel" "shift" "[I", Cond.fieldLink RX8 28 "PerfectPewModel" "triedShift" "[I", Cond.fieldLink RX8 19 "PerfectPewModel" "owner" "[I", Cond.fieldLink RX8 31 "PerfectPewModel" "triedOwner" "[I", Cond.fieldLink RX8 22 "PerfectPewModel" "prints" "[I", Cond.methodLink RX8 107 yX8_in, Cond.static yX8_in, Cond.initialized RX8, Cond.code yX8_in cX8_in 3 (some .boolean), Cond.methodLink RX8 111 yX8_fails, Cond.instanceMethod yX8_fails, Cond.selects RX8 yX8_fails yX8_fails, Cond.code yX8_fails cX8_fails 2 (some .int), Cond.methodLink RX8 155 yX8_displaces, Cond.instanceMethod yX8_displaces, Cond.selects RX8 yX8_displaces yX8_displaces]
def wsX8_build_r2 : List Cond := [Cond.code yX8_displaces cX8_displaces 7 (some .boolean), Cond.methodLink RX8 137 yX8_gather, Cond.instanceMethod yX8_gather, Cond.selects RX8 yX8_gather yX8_gather, Cond.code yX8_gather cX8_gather 6 (some .int), Cond.fieldLink RX8 7 "PerfectPewModel" "keys" "[I", Cond.fieldLink RX8 25 "PerfectPewModel" "some" "[I", Cond.methodLink RX8 126 yX8_hash, Cond.static yX8_hash, Cond.code yX8_hash cX8_hash 3 (some .int), Cond.constantLong RX8 97 (1000003), Cond.methodLink RX8 87 yX8_first, Cond.static yX8_first, Cond.code yX8_first cX8_first 1 (some .long), Cond.constantLong RX8 51 (9973), Cond.constantLong RX8 53 (104729), Cond.constantLong RX8 55 (31337), Cond.constantLong RX8 57 (611953), Cond.constantLong RX8 59 (86243), Cond.constantLong RX8 61 (756839), Cond.methodLink RX8 91 yX8_second, Cond.static yX8_second, Cond.code yX8_second cX8_second 1 (some .long), Cond.constantLong RX8 63 (7919)]
def wsX8_build_r3 : List Cond := [Cond.constantLong RX8 65 (15485), Cond.constantLong RX8 67 (27644), Cond.constantLong RX8 69 (39916), Cond.constantLong RX8 71 (65537), Cond.constantLong RX8 73 (44497), Cond.methodLink RX8 94 yX8_third, Cond.static yX8_third, Cond.code yX8_third cX8_third 1 (some .long), Cond.constantLong RX8 75 (11), Cond.constantLong RX8 77 (101), Cond.constantLong RX8 79 (1009), Cond.constantLong RX8 81 (10007), Cond.constantLong RX8 83 (313), Cond.constantLong RX8 85 (2203), Cond.methodLink RX8 143 yX8_lays, Cond.instanceMethod yX8_lays, Cond.selects RX8 yX8_lays yX8_lays, Cond.code yX8_lays cX8_lays 7 (some .boolean), Cond.methodLink RX8 140 yX8_goes, Cond.instanceMethod yX8_goes, Cond.selects RX8 yX8_goes yX8_goes, Cond.code yX8_goes cX8_goes 8 (some .boolean), Cond.methodLink RX8 133 yX8_place, Cond.static yX8_place]
def wsX8_build_r4 : List Cond := [Cond.code yX8_place cX8_place 4 (some .int), Cond.methodLink RX8 130 yX8_stepOf, Cond.static yX8_stepOf, Cond.code yX8_stepOf cX8_stepOf 3 (some .int), Cond.methodLink RX8 159 yX8_hasNoCircle, Cond.instanceMethod yX8_hasNoCircle, Cond.selects RX8 yX8_hasNoCircle yX8_hasNoCircle, Cond.code yX8_hasNoCircle cX8_hasNoCircle 6 (some .boolean), Cond.fieldLink RX8 41 "PerfectPewModel" "roots" "[I", Cond.fieldLink RX8 44 "PerfectPewModel" "ends" "[I", Cond.methodLink RX8 146 yX8_root, Cond.instanceMethod yX8_root, Cond.selects RX8 yX8_root yX8_root, Cond.code yX8_root cX8_root 3 (some .int), Cond.methodLink RX8 171 yX8_print, Cond.instanceMethod yX8_print, Cond.selects RX8 yX8_print yX8_print, Cond.code yX8_print cX8_print 2 (some .int), Cond.methodLink RX8 174 yX8_layValues, Cond.instanceMethod yX8_layValues, Cond.selects RX8 yX8_layValues yX8_layValues, Cond.code yX8_layValues cX8_layValues 5 none, Cond.fieldLink RX8 38 "PerfectPewModel" "values" "[I", Cond.methodLink RX8 177 yX8_pack]
def wsX8_build_r5 : List Cond := [Cond.instanceMethod yX8_pack, Cond.selects RX8 yX8_pack yX8_pack, Cond.code yX8_pack cX8_pack 5 none, Cond.fieldLink RX8 152 "PerfectPewModel" "width" "I", Cond.fieldLink RX8 34 "PerfectPewModel" "words" "[J"]
def wsX8_build : List Cond := .code yX8_build cX8_build 7 (some .int) :: ((wsX8_build_r1 ++ (wsX8_build_r2 ++ (wsX8_build_r3 ++ (wsX8_build_r4 ++ wsX8_build_r5)))) ++ wsX80)
def wsX8_reopen : List Cond := .code yX8_reopen cX8_reopen 1 none :: ([.fieldLink RX8 47 "PerfectPewModel" "thrown" "I", .fieldLink RX8 114 "PerfectPewModel" "built" "Z", .methodLink RX8 111 yX8_fails, .instanceMethod yX8_fails, .selects RX8 yX8_fails yX8_fails, .initialized RX8, .code yX8_fails cX8_fails 2 (some .int)] ++ wsX80)
def wsX8_isBuilt : List Cond := .code yX8_isBuilt cX8_isBuilt 1 (some .boolean) :: ([.fieldLink RX8 47 "PerfectPewModel" "thrown" "I", .fieldLink RX8 114 "PerfectPewModel" "built" "Z"] ++ wsX80)
def wsX8_numberOf_r1 : List Cond := [Cond.fieldLink RX8 162 "PerfectPewModel" "seed" "I", Cond.fieldLink RX8 16 "PerfectPewModel" "shift" "[I", Cond.fieldLink RX8 149 "PerfectPewModel" "bucketMany" "I", Cond.fieldLink RX8 99 "PerfectPewModel" "many" "I", Cond.methodLink RX8 126 yX8_hash, Cond.static yX8_hash, Cond.initialized RX8, Cond.code yX8_hash cX8_hash 3 (some .int), Cond.constantLong RX8 97 (1000003), Cond.methodLink RX8 87 yX8_first, Cond.static yX8_first, Cond.code yX8_first cX8_first 1 (some .long), Cond.constantLong RX8 51 (9973), Cond.constantLong RX8 53 (104729), Cond.constantLong RX8 55 (31337), Cond.constantLong RX8 57 (611953), Cond.constantLong RX8 59 (86243), Cond.constantLong RX8 61 (756839), Cond.methodLink RX8 91 yX8_second, Cond.static yX8_second, Cond.code yX8_second cX8_second 1 (some .long), Cond.constantLong RX8 63 (7919), Cond.constantLong RX8 65 (15485), Cond.constantLong RX8 67 (27644)]
def wsX8_numberOf_r2 : List Cond := [Cond.constantLong RX8 69 (39916), Cond.constantLong RX8 71 (65537), Cond.constantLong RX8 73 (44497), Cond.methodLink RX8 94 yX8_third, Cond.static yX8_third, Cond.code yX8_third cX8_third 1 (some .long), Cond.constantLong RX8 75 (11), Cond.constantLong RX8 77 (101), Cond.constantLong RX8 79 (1009), Cond.constantLong RX8 81 (10007), Cond.constantLong RX8 83 (313), Cond.constantLong RX8 85 (2203), Cond.methodLink RX8 133 yX8_place, Cond.static yX8_place, Cond.code yX8_place cX8_place 4 (some .int), Cond.methodLink RX8 130 yX8_stepOf, Cond.static yX8_stepOf, Cond.code yX8_stepOf cX8_stepOf 3 (some .int)]
def wsX8_numberOf : List Cond := .code yX8_numberOf cX8_numberOf 2 (some .int) :: ((wsX8_numberOf_r1 ++ wsX8_numberOf_r2) ++ wsX80)
def wsX8_found_r1 : List Cond := [Cond.fieldLink RX8 22 "PerfectPewModel" "prints" "[I", Cond.methodLink RX8 180 yX8_numberOf, Cond.instanceMethod yX8_numberOf, Cond.selects RX8 yX8_numberOf yX8_numberOf, Cond.initialized RX8, Cond.code yX8_numberOf cX8_numberOf 2 (some .int), Cond.fieldLink RX8 162 "PerfectPewModel" "seed" "I", Cond.fieldLink RX8 16 "PerfectPewModel" "shift" "[I", Cond.fieldLink RX8 149 "PerfectPewModel" "bucketMany" "I", Cond.fieldLink RX8 99 "PerfectPewModel" "many" "I", Cond.methodLink RX8 126 yX8_hash, Cond.static yX8_hash, Cond.code yX8_hash cX8_hash 3 (some .int), Cond.constantLong RX8 97 (1000003), Cond.methodLink RX8 87 yX8_first, Cond.static yX8_first, Cond.code yX8_first cX8_first 1 (some .long), Cond.constantLong RX8 51 (9973), Cond.constantLong RX8 53 (104729), Cond.constantLong RX8 55 (31337), Cond.constantLong RX8 57 (611953), Cond.constantLong RX8 59 (86243), Cond.constantLong RX8 61 (756839), Cond.methodLink RX8 91 yX8_second]
def wsX8_found_r2 : List Cond := [Cond.static yX8_second, Cond.code yX8_second cX8_second 1 (some .long), Cond.constantLong RX8 63 (7919), Cond.constantLong RX8 65 (15485), Cond.constantLong RX8 67 (27644), Cond.constantLong RX8 69 (39916), Cond.constantLong RX8 71 (65537), Cond.constantLong RX8 73 (44497), Cond.methodLink RX8 94 yX8_third, Cond.static yX8_third, Cond.code yX8_third cX8_third 1 (some .long), Cond.constantLong RX8 75 (11), Cond.constantLong RX8 77 (101), Cond.constantLong RX8 79 (1009), Cond.constantLong RX8 81 (10007), Cond.constantLong RX8 83 (313), Cond.constantLong RX8 85 (2203), Cond.methodLink RX8 133 yX8_place, Cond.static yX8_place, Cond.code yX8_place cX8_place 4 (some .int), Cond.methodLink RX8 130 yX8_stepOf, Cond.static yX8_stepOf, Cond.code yX8_stepOf cX8_stepOf 3 (some .int), Cond.methodLink RX8 171 yX8_print]
def wsX8_found_r3 : List Cond := [Cond.instanceMethod yX8_print, Cond.selects RX8 yX8_print yX8_print, Cond.code yX8_print cX8_print 2 (some .int), Cond.fieldLink RX8 168 "PerfectPewModel" "bits" "I"]
def wsX8_found : List Cond := .code yX8_found cX8_found 3 (some .int) :: ((wsX8_found_r1 ++ (wsX8_found_r2 ++ wsX8_found_r3)) ++ wsX80)
def wsX8_number_r1 : List Cond := [Cond.fieldLink RX8 47 "PerfectPewModel" "thrown" "I", Cond.constant RX8 106 (99999), Cond.fieldLink RX8 114 "PerfectPewModel" "built" "Z", Cond.methodLink RX8 107 yX8_in, Cond.static yX8_in, Cond.initialized RX8, Cond.code yX8_in cX8_in 3 (some .boolean), Cond.methodLink RX8 111 yX8_fails, Cond.instanceMethod yX8_fails, Cond.selects RX8 yX8_fails yX8_fails, Cond.code yX8_fails cX8_fails 2 (some .int), Cond.methodLink RX8 180 yX8_numberOf, Cond.instanceMethod yX8_numberOf, Cond.selects RX8 yX8_numberOf yX8_numberOf, Cond.code yX8_numberOf cX8_numberOf 2 (some .int), Cond.fieldLink RX8 162 "PerfectPewModel" "seed" "I", Cond.fieldLink RX8 16 "PerfectPewModel" "shift" "[I", Cond.fieldLink RX8 149 "PerfectPewModel" "bucketMany" "I", Cond.fieldLink RX8 99 "PerfectPewModel" "many" "I", Cond.methodLink RX8 126 yX8_hash, Cond.static yX8_hash, Cond.code yX8_hash cX8_hash 3 (some .int), Cond.constantLong RX8 97 (1000003), Cond.methodLink RX8 87 yX8_first]
def wsX8_number_r2 : List Cond := [Cond.static yX8_first, Cond.code yX8_first cX8_first 1 (some .long), Cond.constantLong RX8 51 (9973), Cond.constantLong RX8 53 (104729), Cond.constantLong RX8 55 (31337), Cond.constantLong RX8 57 (611953), Cond.constantLong RX8 59 (86243), Cond.constantLong RX8 61 (756839), Cond.methodLink RX8 91 yX8_second, Cond.static yX8_second, Cond.code yX8_second cX8_second 1 (some .long), Cond.constantLong RX8 63 (7919), Cond.constantLong RX8 65 (15485), Cond.constantLong RX8 67 (27644), Cond.constantLong RX8 69 (39916), Cond.constantLong RX8 71 (65537), Cond.constantLong RX8 73 (44497), Cond.methodLink RX8 94 yX8_third, Cond.static yX8_third, Cond.code yX8_third cX8_third 1 (some .long), Cond.constantLong RX8 75 (11), Cond.constantLong RX8 77 (101), Cond.constantLong RX8 79 (1009), Cond.constantLong RX8 81 (10007)]
def wsX8_number_r3 : List Cond := [Cond.constantLong RX8 83 (313), Cond.constantLong RX8 85 (2203), Cond.methodLink RX8 133 yX8_place, Cond.static yX8_place, Cond.code yX8_place cX8_place 4 (some .int), Cond.methodLink RX8 130 yX8_stepOf, Cond.static yX8_stepOf, Cond.code yX8_stepOf cX8_stepOf 3 (some .int)]
def wsX8_number : List Cond := .code yX8_number cX8_number 2 (some .int) :: ((wsX8_number_r1 ++ (wsX8_number_r2 ++ wsX8_number_r3)) ++ wsX80)
def wsX8_find_r1 : List Cond := [Cond.fieldLink RX8 47 "PerfectPewModel" "thrown" "I", Cond.constant RX8 106 (99999), Cond.fieldLink RX8 114 "PerfectPewModel" "built" "Z", Cond.methodLink RX8 107 yX8_in, Cond.static yX8_in, Cond.initialized RX8, Cond.code yX8_in cX8_in 3 (some .boolean), Cond.methodLink RX8 111 yX8_fails, Cond.instanceMethod yX8_fails, Cond.selects RX8 yX8_fails yX8_fails, Cond.code yX8_fails cX8_fails 2 (some .int), Cond.methodLink RX8 183 yX8_found, Cond.instanceMethod yX8_found, Cond.selects RX8 yX8_found yX8_found, Cond.code yX8_found cX8_found 3 (some .int), Cond.fieldLink RX8 22 "PerfectPewModel" "prints" "[I", Cond.methodLink RX8 180 yX8_numberOf, Cond.instanceMethod yX8_numberOf, Cond.selects RX8 yX8_numberOf yX8_numberOf, Cond.code yX8_numberOf cX8_numberOf 2 (some .int), Cond.fieldLink RX8 162 "PerfectPewModel" "seed" "I", Cond.fieldLink RX8 16 "PerfectPewModel" "shift" "[I", Cond.fieldLink RX8 149 "PerfectPewModel" "bucketMany" "I", Cond.fieldLink RX8 99 "PerfectPewModel" "many" "I"]
def wsX8_find_r2 : List Cond := [Cond.methodLink RX8 126 yX8_hash, Cond.static yX8_hash, Cond.code yX8_hash cX8_hash 3 (some .int), Cond.constantLong RX8 97 (1000003), Cond.methodLink RX8 87 yX8_first, Cond.static yX8_first, Cond.code yX8_first cX8_first 1 (some .long), Cond.constantLong RX8 51 (9973), Cond.constantLong RX8 53 (104729), Cond.constantLong RX8 55 (31337), Cond.constantLong RX8 57 (611953), Cond.constantLong RX8 59 (86243), Cond.constantLong RX8 61 (756839), Cond.methodLink RX8 91 yX8_second, Cond.static yX8_second, Cond.code yX8_second cX8_second 1 (some .long), Cond.constantLong RX8 63 (7919), Cond.constantLong RX8 65 (15485), Cond.constantLong RX8 67 (27644), Cond.constantLong RX8 69 (39916), Cond.constantLong RX8 71 (65537), Cond.constantLong RX8 73 (44497), Cond.methodLink RX8 94 yX8_third, Cond.static yX8_third]
def wsX8_find_r3 : List Cond := [Cond.code yX8_third cX8_third 1 (some .long), Cond.constantLong RX8 75 (11), Cond.constantLong RX8 77 (101), Cond.constantLong RX8 79 (1009), Cond.constantLong RX8 81 (10007), Cond.constantLong RX8 83 (313), Cond.constantLong RX8 85 (2203), Cond.methodLink RX8 133 yX8_place, Cond.static yX8_place, Cond.code yX8_place cX8_place 4 (some .int), Cond.methodLink RX8 130 yX8_stepOf, Cond.static yX8_stepOf, Cond.code yX8_stepOf cX8_stepOf 3 (some .int), Cond.methodLink RX8 171 yX8_print, Cond.instanceMethod yX8_print, Cond.selects RX8 yX8_print yX8_print, Cond.code yX8_print cX8_print 2 (some .int), Cond.fieldLink RX8 168 "PerfectPewModel" "bits" "I"]
def wsX8_find : List Cond := .code yX8_find cX8_find 2 (some .int) :: ((wsX8_find_r1 ++ (wsX8_find_r2 ++ wsX8_find_r3)) ++ wsX80)
def wsX8_strangers_r1 : List Cond := [Cond.fieldLink RX8 47 "PerfectPewModel" "thrown" "I", Cond.constant RX8 106 (99999), Cond.fieldLink RX8 114 "PerfectPewModel" "built" "Z", Cond.methodLink RX8 107 yX8_in, Cond.static yX8_in, Cond.initialized RX8, Cond.code yX8_in cX8_in 3 (some .boolean), Cond.methodLink RX8 111 yX8_fails, Cond.instanceMethod yX8_fails, Cond.selects RX8 yX8_fails yX8_fails, Cond.code yX8_fails cX8_fails 2 (some .int), Cond.methodLink RX8 183 yX8_found, Cond.instanceMethod yX8_found, Cond.selects RX8 yX8_found yX8_found, Cond.code yX8_found cX8_found 3 (some .int), Cond.fieldLink RX8 22 "PerfectPewModel" "prints" "[I", Cond.methodLink RX8 180 yX8_numberOf, Cond.instanceMethod yX8_numberOf, Cond.selects RX8 yX8_numberOf yX8_numberOf, Cond.code yX8_numberOf cX8_numberOf 2 (some .int), Cond.fieldLink RX8 162 "PerfectPewModel" "seed" "I", Cond.fieldLink RX8 16 "PerfectPewModel" "shift" "[I", Cond.fieldLink RX8 149 "PerfectPewModel" "bucketMany" "I", Cond.fieldLink RX8 99 "PerfectPewModel" "many" "I"]
def wsX8_strangers_r2 : List Cond := [Cond.methodLink RX8 126 yX8_hash, Cond.static yX8_hash, Cond.code yX8_hash cX8_hash 3 (some .int), Cond.constantLong RX8 97 (1000003), Cond.methodLink RX8 87 yX8_first, Cond.static yX8_first, Cond.code yX8_first cX8_first 1 (some .long), Cond.constantLong RX8 51 (9973), Cond.constantLong RX8 53 (104729), Cond.constantLong RX8 55 (31337), Cond.constantLong RX8 57 (611953), Cond.constantLong RX8 59 (86243), Cond.constantLong RX8 61 (756839), Cond.methodLink RX8 91 yX8_second, Cond.static yX8_second, Cond.code yX8_second cX8_second 1 (some .long), Cond.constantLong RX8 63 (7919), Cond.constantLong RX8 65 (15485), Cond.constantLong RX8 67 (27644), Cond.constantLong RX8 69 (39916), Cond.constantLong RX8 71 (65537), Cond.constantLong RX8 73 (44497), Cond.methodLink RX8 94 yX8_third, Cond.static yX8_third]
def wsX8_strangers_r3 : List Cond := [Cond.code yX8_third cX8_third 1 (some .long), Cond.constantLong RX8 75 (11), Cond.constantLong RX8 77 (101), Cond.constantLong RX8 79 (1009), Cond.constantLong RX8 81 (10007), Cond.constantLong RX8 83 (313), Cond.constantLong RX8 85 (2203), Cond.methodLink RX8 133 yX8_place, Cond.static yX8_place, Cond.code yX8_place cX8_place 4 (some .int), Cond.methodLink RX8 130 yX8_stepOf, Cond.static yX8_stepOf, Cond.code yX8_stepOf cX8_stepOf 3 (some .int), Cond.methodLink RX8 171 yX8_print, Cond.instanceMethod yX8_print, Cond.selects RX8 yX8_print yX8_print, Cond.code yX8_print cX8_print 2 (some .int), Cond.fieldLink RX8 168 "PerfectPewModel" "bits" "I", Cond.methodLink RX8 118 yX8_is, Cond.instanceMethod yX8_is, Cond.selects RX8 yX8_is yX8_is, Cond.code yX8_is cX8_is 3 (some .boolean), Cond.fieldLink RX8 7 "PerfectPewModel" "keys" "[I", Cond.methodLink RX8 102 yX8_below]
def wsX8_strangers_r4 : List Cond := [Cond.instanceMethod yX8_below, Cond.selects RX8 yX8_below yX8_below, Cond.code yX8_below cX8_below 3 (some .int)]
def wsX8_strangers : List Cond := .code yX8_strangers cX8_strangers 5 (some .int) :: ((wsX8_strangers_r1 ++ (wsX8_strangers_r2 ++ (wsX8_strangers_r3 ++ wsX8_strangers_r4))) ++ wsX80)
def wsX8_told : List Cond := .code yX8_told cX8_told 3 (some .int) :: ([.fieldLink RX8 114 "PerfectPewModel" "built" "Z", .methodLink RX8 111 yX8_fails, .instanceMethod yX8_fails, .selects RX8 yX8_fails yX8_fails, .initialized RX8, .code yX8_fails cX8_fails 2 (some .int), .fieldLink RX8 47 "PerfectPewModel" "thrown" "I"] ++ wsX80)
def wsX8_keyOf : List Cond := .code yX8_keyOf cX8_keyOf 3 (some .int) :: ([.fieldLink RX8 47 "PerfectPewModel" "thrown" "I", .fieldLink RX8 99 "PerfectPewModel" "many" "I", .fieldLink RX8 19 "PerfectPewModel" "owner" "[I", .methodLink RX8 107 yX8_in, .static yX8_in, .initialized RX8, .code yX8_in cX8_in 3 (some .boolean), .methodLink RX8 186 yX8_told, .instanceMethod yX8_told, .selects RX8 yX8_told yX8_told, .code yX8_told cX8_told 3 (some .int), .fieldLink RX8 114 "PerfectPewModel" "built" "Z", .methodLink RX8 111 yX8_fails, .instanceMethod yX8_fails, .selects RX8 yX8_fails yX8_fails, .code yX8_fails cX8_fails 2 (some .int)] ++ wsX80)
def wsX8_fingerprint : List Cond := .code yX8_fingerprint cX8_fingerprint 3 (some .int) :: ([.fieldLink RX8 47 "PerfectPewModel" "thrown" "I", .fieldLink RX8 99 "PerfectPewModel" "many" "I", .fieldLink RX8 22 "PerfectPewModel" "prints" "[I", .methodLink RX8 107 yX8_in, .static yX8_in, .initialized RX8, .code yX8_in cX8_in 3 (some .boolean), .methodLink RX8 186 yX8_told, .instanceMethod yX8_told, .selects RX8 yX8_told yX8_told, .code yX8_told cX8_told 3 (some .int), .fieldLink RX8 114 "PerfectPewModel" "built" "Z", .methodLink RX8 111 yX8_fails, .instanceMethod yX8_fails, .selects RX8 yX8_fails yX8_fails, .code yX8_fails cX8_fails 2 (some .int)] ++ wsX80)
def wsX8_seed : List Cond := .code yX8_seed cX8_seed 1 (some .int) :: ([.fieldLink RX8 47 "PerfectPewModel" "thrown" "I", .fieldLink RX8 162 "PerfectPewModel" "seed" "I", .methodLink RX8 186 yX8_told, .instanceMethod yX8_told, .selects RX8 yX8_told yX8_told, .initialized RX8, .code yX8_told cX8_told 3 (some .int), .fieldLink RX8 114 "PerfectPewModel" "built" "Z", .methodLink RX8 111 yX8_fails, .instanceMethod yX8_fails, .selects RX8 yX8_fails yX8_fails, .code yX8_fails cX8_fails 2 (some .int)] ++ wsX80)
def wsX8_buckets : List Cond := .code yX8_buckets cX8_buckets 1 (some .int) :: ([.fieldLink RX8 47 "PerfectPewModel" "thrown" "I", .fieldLink RX8 149 "PerfectPewModel" "bucketMany" "I", .methodLink RX8 186 yX8_told, .instanceMethod yX8_told, .selects RX8 yX8_told yX8_told, .initialized RX8, .code yX8_told cX8_told 3 (some .int), .fieldLink RX8 114 "PerfectPewModel" "built" "Z", .methodLink RX8 111 yX8_fails, .instanceMethod yX8_fails, .selects RX8 yX8_fails yX8_fails, .code yX8_fails cX8_fails 2 (some .int)] ++ wsX80)
def wsX8_inBucket : List Cond := .code yX8_inBucket cX8_inBucket 3 (some .int) :: ([.fieldLink RX8 47 "PerfectPewModel" "thrown" "I", .fieldLink RX8 149 "PerfectPewModel" "bucketMany" "I", .fieldLink RX8 13 "PerfectPewModel" "sizes" "[I", .methodLink RX8 107 yX8_in, .static yX8_in, .initialized RX8, .code yX8_in cX8_in 3 (some .boolean), .methodLink RX8 186 yX8_told, .instanceMethod yX8_told, .selects RX8 yX8_told yX8_told, .code yX8_told cX8_told 3 (some .int), .fieldLink RX8 114 "PerfectPewModel" "built" "Z", .methodLink RX8 111 yX8_fails, .instanceMethod yX8_fails, .selects RX8 yX8_fails yX8_fails, .code yX8_fails cX8_fails 2 (some .int)] ++ wsX80)
def wsX8_displacement : List Cond := .code yX8_displacement cX8_displacement 3 (some .int) :: ([.fieldLink RX8 47 "PerfectPewModel" "thrown" "I", .fieldLink RX8 149 "PerfectPewModel" "bucketMany" "I", .fieldLink RX8 16 "PerfectPewModel" "shift" "[I", .methodLink RX8 107 yX8_in, .static yX8_in, .initialized RX8, .code yX8_in cX8_in 3 (some .boolean), .methodLink RX8 186 yX8_told, .instanceMethod yX8_told, .selects RX8 yX8_told yX8_told, .code yX8_told cX8_told 3 (some .int), .fieldLink RX8 114 "PerfectPewModel" "built" "Z", .methodLink RX8 111 yX8_fails, .instanceMethod yX8_fails, .selects RX8 yX8_fails yX8_fails, .code yX8_fails cX8_fails 2 (some .int)] ++ wsX80)
def wsX8_width : List Cond := .code yX8_width cX8_width 1 (some .int) :: ([.fieldLink RX8 47 "PerfectPewModel" "thrown" "I", .fieldLink RX8 152 "PerfectPewModel" "width" "I", .methodLink RX8 186 yX8_told, .instanceMethod yX8_told, .selects RX8 yX8_told yX8_told, .initialized RX8, .code yX8_told cX8_told 3 (some .int), .fieldLink RX8 114 "PerfectPewModel" "built" "Z", .methodLink RX8 111 yX8_fails, .instanceMethod yX8_fails, .selects RX8 yX8_fails yX8_fails, .code yX8_fails cX8_fails 2 (some .int)] ++ wsX80)
def wsX8_word : List Cond := .code yX8_word cX8_word 2 (some .long) :: ([.fieldLink RX8 47 "PerfectPewModel" "thrown" "I", .fieldLink RX8 114 "PerfectPewModel" "built" "Z", .fieldLink RX8 149 "PerfectPewModel" "bucketMany" "I", .fieldLink RX8 152 "PerfectPewModel" "width" "I", .fieldLink RX8 34 "PerfectPewModel" "words" "[J", .methodLink RX8 111 yX8_fails, .instanceMethod yX8_fails, .selects RX8 yX8_fails yX8_fails, .initialized RX8, .code yX8_fails cX8_fails 2 (some .int), .methodLink RX8 107 yX8_in, .static yX8_in, .code yX8_in cX8_in 3 (some .boolean)] ++ wsX80)
def wsX8_byGraph_r1 : List Cond := [Cond.fieldLink RX8 47 "PerfectPewModel" "thrown" "I", Cond.constant RX8 106 (99999), Cond.fieldLink RX8 114 "PerfectPewModel" "built" "Z", Cond.fieldLink RX8 38 "PerfectPewModel" "values" "[I", Cond.fieldLink RX8 165 "PerfectPewModel" "graphSeed" "I", Cond.fieldLink RX8 99 "PerfectPewModel" "many" "I", Cond.methodLink RX8 107 yX8_in, Cond.static yX8_in, Cond.initialized RX8, Cond.code yX8_in cX8_in 3 (some .boolean), Cond.methodLink RX8 111 yX8_fails, Cond.instanceMethod yX8_fails, Cond.selects RX8 yX8_fails yX8_fails, Cond.code yX8_fails cX8_fails 2 (some .int), Cond.methodLink RX8 126 yX8_hash, Cond.static yX8_hash, Cond.code yX8_hash cX8_hash 3 (some .int), Cond.constantLong RX8 97 (1000003), Cond.methodLink RX8 87 yX8_first, Cond.static yX8_first, Cond.code yX8_first cX8_first 1 (some .long), Cond.constantLong RX8 51 (9973), Cond.constantLong RX8 53 (104729), Cond.constantLong RX8 55 (31337)]
def wsX8_byGraph_r2 : List Cond := [Cond.constantLong RX8 57 (611953), Cond.constantLong RX8 59 (86243), Cond.constantLong RX8 61 (756839), Cond.methodLink RX8 91 yX8_second, Cond.static yX8_second, Cond.code yX8_second cX8_second 1 (some .long), Cond.constantLong RX8 63 (7919), Cond.constantLong RX8 65 (15485), Cond.constantLong RX8 67 (27644), Cond.constantLong RX8 69 (39916), Cond.constantLong RX8 71 (65537), Cond.constantLong RX8 73 (44497), Cond.methodLink RX8 94 yX8_third, Cond.static yX8_third, Cond.code yX8_third cX8_third 1 (some .long), Cond.constantLong RX8 75 (11), Cond.constantLong RX8 77 (101), Cond.constantLong RX8 79 (1009), Cond.constantLong RX8 81 (10007), Cond.constantLong RX8 83 (313), Cond.constantLong RX8 85 (2203)]
def wsX8_byGraph : List Cond := .code yX8_byGraph cX8_byGraph 2 (some .int) :: ((wsX8_byGraph_r1 ++ wsX8_byGraph_r2) ++ wsX80)
def wsX8_graphSeed : List Cond := .code yX8_graphSeed cX8_graphSeed 1 (some .int) :: ([.fieldLink RX8 47 "PerfectPewModel" "thrown" "I", .fieldLink RX8 165 "PerfectPewModel" "graphSeed" "I", .methodLink RX8 186 yX8_told, .instanceMethod yX8_told, .selects RX8 yX8_told yX8_told, .initialized RX8, .code yX8_told cX8_told 3 (some .int), .fieldLink RX8 114 "PerfectPewModel" "built" "Z", .methodLink RX8 111 yX8_fails, .instanceMethod yX8_fails, .selects RX8 yX8_fails yX8_fails, .code yX8_fails cX8_fails 2 (some .int)] ++ wsX80)
def wsX8_valueOf : List Cond := .code yX8_valueOf cX8_valueOf 3 (some .int) :: ([.fieldLink RX8 47 "PerfectPewModel" "thrown" "I", .fieldLink RX8 99 "PerfectPewModel" "many" "I", .fieldLink RX8 38 "PerfectPewModel" "values" "[I", .methodLink RX8 107 yX8_in, .static yX8_in, .initialized RX8, .code yX8_in cX8_in 3 (some .boolean), .methodLink RX8 186 yX8_told, .instanceMethod yX8_told, .selects RX8 yX8_told yX8_told, .code yX8_told cX8_told 3 (some .int), .fieldLink RX8 114 "PerfectPewModel" "built" "Z", .methodLink RX8 111 yX8_fails, .instanceMethod yX8_fails, .selects RX8 yX8_fails yX8_fails, .code yX8_fails cX8_fails 2 (some .int)] ++ wsX80)
def wsJ9_max_7cf53 : List Cond := .code yJ9_max_7cf53 cJ9_max_7cf53 2 (some .int) :: ([])
def wsJ9_min_7cf53 : List Cond := .code yJ9_min_7cf53 cJ9_min_7cf53 2 (some .int) :: ([])
def wsL_add_r1 : List Cond := [Cond.classLink RL 13 "java/lang/IllegalArgumentException", Cond.classLink RL 15 "java/lang/IllegalStateException", Cond.methodLink RL 7 yX7_add, Cond.instanceMethod yX7_add, Cond.selects RX7 yX7_add yX7_add, Cond.initialized RX7, Cond.code yX7_add cX7_add 2 (some .int), Cond.classLink RX7 56 "java/lang/IllegalStateException", Cond.initialized "java/lang/IllegalStateException", Cond.fieldLink RX7 10 "PerfectPew" "sorted" "LPerfectPew$KeyList;", Cond.methodLink RX7 46 yX7_requireKey, Cond.static yX7_requireKey, Cond.code yX7_requireKey cX7_requireKey 1 none, Cond.classLink RX7 94 "java/lang/IllegalArgumentException", Cond.initialized "java/lang/IllegalArgumentException", Cond.constant RX7 178 (99999), Cond.methodLink RX7 49 yX7_requireOpen, Cond.instanceMethod yX7_requireOpen, Cond.selects RX7 yX7_requireOpen yX7_requireOpen, Cond.code yX7_requireOpen cX7_requireOpen 1 none, Cond.fieldLink RX7 125 "PerfectPew" "built" "Z", Cond.instanceMethod yX4_holds, Cond.initialized RX4, Cond.selects RX4 yX4_holds yX4_holds]
def wsL_add_r2 : List Cond := [Cond.code yX4_holds cX4_holds 3 (some .boolean), Cond.fieldLink RX4 24 "PerfectPew$KeyList" "size" "I", Cond.fieldLink RX4 14 "PerfectPew$KeyList" "places" "LPerfectPew$Row;", Cond.methodLink RX4 28 yX4_rankOf, Cond.instanceMethod yX4_rankOf, Cond.selects RX4 yX4_rankOf yX4_rankOf, Cond.code yX4_rankOf cX4_rankOf 5 (some .int), Cond.instanceMethod yX6_get, Cond.initialized RX6, Cond.selects RX6 yX6_get yX6_get, Cond.code yX6_get cX6_get 2 (some .int), Cond.fieldLink RX6 13 "PerfectPew$Row" "cells" "[I", Cond.methodLink RX7 63 yX7_requireRoomFor, Cond.instanceMethod yX7_requireRoomFor, Cond.selects RX7 yX7_requireRoomFor yX7_requireRoomFor, Cond.code yX7_requireRoomFor cX7_requireRoomFor 2 none, Cond.instanceMethod yX4_insert, Cond.selects RX4 yX4_insert yX4_insert, Cond.code yX4_insert cX4_insert 4 none, Cond.instanceMethod yX6_set, Cond.selects RX6 yX6_set yX6_set, Cond.code yX6_set cX6_set 3 none]
def wsL_add : List Cond := .codeWith yL_add cL_add 4 (some .int) [(0, 9, 12, 13), (0, 9, 15, 15)] :: ((wsL_add_r1 ++ wsL_add_r2) ++ wsX70 ++ wsX40 ++ wsX60 ++ (vx_atS RX7 60 "java/lang/IllegalStateException" ["java/lang/RuntimeException", "java/lang/Exception"]).filter goodWord ++ (vx_atS RX7 98 "java/lang/IllegalArgumentException" ["java/lang/RuntimeException", "java/lang/Exception"]).filter goodWord)
def wsL_addLine_r1 : List Cond := [Cond.classLink RL 13 "java/lang/IllegalArgumentException", Cond.classLink RL 15 "java/lang/IllegalStateException", Cond.methodLink RL 17 yX7_addLine, Cond.instanceMethod yX7_addLine, Cond.selects RX7 yX7_addLine yX7_addLine, Cond.initialized RX7, Cond.code yX7_addLine cX7_addLine 6 (some .int), Cond.fieldLink RX7 10 "PerfectPew" "sorted" "LPerfectPew$KeyList;", Cond.methodLink RX7 73 yX7_requireLine, Cond.static yX7_requireLine, Cond.code yX7_requireLine cX7_requireLine 3 none, Cond.classLink RX7 94 "java/lang/IllegalArgumentException", Cond.initialized "java/lang/IllegalArgumentException", Cond.methodLink RX7 46 yX7_requireKey, Cond.static yX7_requireKey, Cond.code yX7_requireKey cX7_requireKey 1 none, Cond.constant RX7 178 (99999), Cond.methodLink RX7 49 yX7_requireOpen, Cond.instanceMethod yX7_requireOpen, Cond.selects RX7 yX7_requireOpen yX7_requireOpen, Cond.code yX7_requireOpen cX7_requireOpen 1 none, Cond.classLink RX7 56 "java/lang/IllegalStateException", Cond.initialized "java/lang/IllegalStateException", Cond.fieldLink RX7 125 "PerfectPew" "built" "Z"]
def wsL_addLine_r2 : List Cond := [Cond.methodLink RX7 77 yX7_newInLine, Cond.instanceMethod yX7_newInLine, Cond.selects RX7 yX7_newInLine yX7_newInLine, Cond.code yX7_newInLine cX7_newInLine 6 (some .int), Cond.instanceMethod yX4_holds, Cond.initialized RX4, Cond.selects RX4 yX4_holds yX4_holds, Cond.code yX4_holds cX4_holds 3 (some .boolean), Cond.fieldLink RX4 24 "PerfectPew$KeyList" "size" "I", Cond.fieldLink RX4 14 "PerfectPew$KeyList" "places" "LPerfectPew$Row;", Cond.methodLink RX4 28 yX4_rankOf, Cond.instanceMethod yX4_rankOf, Cond.selects RX4 yX4_rankOf yX4_rankOf, Cond.code yX4_rankOf cX4_rankOf 5 (some .int), Cond.instanceMethod yX6_get, Cond.initialized RX6, Cond.selects RX6 yX6_get yX6_get, Cond.code yX6_get cX6_get 2 (some .int), Cond.fieldLink RX6 13 "PerfectPew$Row" "cells" "[I", Cond.methodLink RX7 63 yX7_requireRoomFor, Cond.instanceMethod yX7_requireRoomFor, Cond.selects RX7 yX7_requireRoomFor yX7_requireRoomFor, Cond.code yX7_requireRoomFor cX7_requireRoomFor 2 none, Cond.instanceMethod yX4_insert]
def wsL_addLine_r3 : List Cond := [Cond.selects RX4 yX4_insert yX4_insert, Cond.code yX4_insert cX4_insert 4 none, Cond.instanceMethod yX6_set, Cond.selects RX6 yX6_set yX6_set, Cond.code yX6_set cX6_set 3 none]
def wsL_addLine : List Cond := .codeWith yL_addLine cL_addLine 6 (some .int) [(0, 12, 15, 13), (0, 12, 19, 15)] :: ((wsL_addLine_r1 ++ (wsL_addLine_r2 ++ wsL_addLine_r3)) ++ wsX70 ++ wsX40 ++ wsX60 ++ (vx_atS RX7 98 "java/lang/IllegalArgumentException" ["java/lang/RuntimeException", "java/lang/Exception"]).filter goodWord ++ (vx_atS RX7 60 "java/lang/IllegalStateException" ["java/lang/RuntimeException", "java/lang/Exception"]).filter goodWord)
def wsL_remove_r1 : List Cond := [Cond.classLink RL 13 "java/lang/IllegalArgumentException", Cond.classLink RL 15 "java/lang/IllegalStateException", Cond.methodLink RL 21 yX7_remove, Cond.instanceMethod yX7_remove, Cond.selects RX7 yX7_remove yX7_remove, Cond.initialized RX7, Cond.code yX7_remove cX7_remove 2 (some .int), Cond.classLink RX7 56 "java/lang/IllegalStateException", Cond.initialized "java/lang/IllegalStateException", Cond.fieldLink RX7 10 "PerfectPew" "sorted" "LPerfectPew$KeyList;", Cond.methodLink RX7 46 yX7_requireKey, Cond.static yX7_requireKey, Cond.code yX7_requireKey cX7_requireKey 1 none, Cond.classLink RX7 94 "java/lang/IllegalArgumentException", Cond.initialized "java/lang/IllegalArgumentException", Cond.constant RX7 178 (99999), Cond.methodLink RX7 49 yX7_requireOpen, Cond.instanceMethod yX7_requireOpen, Cond.selects RX7 yX7_requireOpen yX7_requireOpen, Cond.code yX7_requireOpen cX7_requireOpen 1 none, Cond.fieldLink RX7 125 "PerfectPew" "built" "Z", Cond.instanceMethod yX4_holds, Cond.initialized RX4, Cond.selects RX4 yX4_holds yX4_holds]
def wsL_remove_r2 : List Cond := [Cond.code yX4_holds cX4_holds 3 (some .boolean), Cond.fieldLink RX4 24 "PerfectPew$KeyList" "size" "I", Cond.fieldLink RX4 14 "PerfectPew$KeyList" "places" "LPerfectPew$Row;", Cond.methodLink RX4 28 yX4_rankOf, Cond.instanceMethod yX4_rankOf, Cond.selects RX4 yX4_rankOf yX4_rankOf, Cond.code yX4_rankOf cX4_rankOf 5 (some .int), Cond.instanceMethod yX6_get, Cond.initialized RX6, Cond.selects RX6 yX6_get yX6_get, Cond.code yX6_get cX6_get 2 (some .int), Cond.fieldLink RX6 13 "PerfectPew$Row" "cells" "[I", Cond.instanceMethod yX4_delete, Cond.selects RX4 yX4_delete yX4_delete, Cond.code yX4_delete cX4_delete 3 none, Cond.instanceMethod yX6_set, Cond.selects RX6 yX6_set yX6_set, Cond.code yX6_set cX6_set 3 none]
def wsL_remove : List Cond := .codeWith yL_remove cL_remove 4 (some .int) [(0, 9, 12, 13), (0, 9, 15, 15)] :: ((wsL_remove_r1 ++ wsL_remove_r2) ++ wsX70 ++ wsX40 ++ wsX60 ++ (vx_atS RX7 60 "java/lang/IllegalStateException" ["java/lang/RuntimeException", "java/lang/Exception"]).filter goodWord ++ (vx_atS RX7 98 "java/lang/IllegalArgumentException" ["java/lang/RuntimeException", "java/lang/Exception"]).filter goodWord)
def wsL_has_r1 : List Cond := [Cond.classLink RL 13 "java/lang/IllegalArgumentException", Cond.methodLink RL 24 yX7_has, Cond.instanceMethod yX7_has, Cond.selects RX7 yX7_has yX7_has, Cond.initialized RX7, Cond.code yX7_has cX7_has 2 (some .boolean), Cond.fieldLink RX7 10 "PerfectPew" "sorted" "LPerfectPew$KeyList;", Cond.methodLink RX7 46 yX7_requireKey, Cond.static yX7_requireKey, Cond.code yX7_requireKey cX7_requireKey 1 none, Cond.classLink RX7 94 "java/lang/IllegalArgumentException", Cond.initialized "java/lang/IllegalArgumentException", Cond.constant RX7 178 (99999), Cond.instanceMethod yX4_holds, Cond.initialized RX4, Cond.selects RX4 yX4_holds yX4_holds, Cond.code yX4_holds cX4_holds 3 (some .boolean), Cond.fieldLink RX4 24 "PerfectPew$KeyList" "size" "I", Cond.fieldLink RX4 14 "PerfectPew$KeyList" "places" "LPerfectPew$Row;", Cond.methodLink RX4 28 yX4_rankOf, Cond.instanceMethod yX4_rankOf, Cond.selects RX4 yX4_rankOf yX4_rankOf, Cond.code yX4_rankOf cX4_rankOf 5 (some .int), Cond.instanceMethod yX6_get]
def wsL_has_r2 : List Cond := [Cond.initialized RX6, Cond.selects RX6 yX6_get yX6_get, Cond.code yX6_get cX6_get 2 (some .int), Cond.fieldLink RX6 13 "PerfectPew$Row" "cells" "[I"]
def wsL_has : List Cond := .codeWith yL_has cL_has 4 (some .int) [(0, 16, 19, 13)] :: ((wsL_has_r1 ++ wsL_has_r2) ++ wsX70 ++ wsX40 ++ wsX60 ++ (vx_atS RX7 98 "java/lang/IllegalArgumentException" ["java/lang/RuntimeException", "java/lang/Exception"]).filter goodWord)
def wsL_keyAt : List Cond := .codeWith yL_keyAt cL_keyAt 4 (some .int) [(0, 9, 12, 31)] :: ([.classLink RL 31 "java/lang/IndexOutOfBoundsException", .methodLink RL 28 yX7_keyAt, .instanceMethod yX7_keyAt, .selects RX7 yX7_keyAt yX7_keyAt, .initialized RX7, .code yX7_keyAt cX7_keyAt 2 (some .int), .fieldLink RX7 10 "PerfectPew" "sorted" "LPerfectPew$KeyList;", .methodLink RX7 86 yX7_requireBelow, .static yX7_requireBelow, .code yX7_requireBelow cX7_requireBelow 2 none, .classLink RX7 185 "java/lang/IndexOutOfBoundsException", .initialized "java/lang/IndexOutOfBoundsException", .instanceMethod yX4_at, .initialized RX4, .selects RX4 yX4_at yX4_at, .code yX4_at cX4_at 2 (some .int), .fieldLink RX4 14 "PerfectPew$KeyList" "places" "LPerfectPew$Row;", .instanceMethod yX6_get, .initialized RX6, .selects RX6 yX6_get yX6_get, .code yX6_get cX6_get 2 (some .int), .fieldLink RX6 13 "PerfectPew$Row" "cells" "[I"] ++ wsX70 ++ wsX40 ++ wsX60 ++ (vx_atS RX7 189 "java/lang/IndexOutOfBoundsException" ["java/lang/RuntimeException", "java/lang/Exception"]).filter goodWord)
def wsL_build_r1 : List Cond := [Cond.classLink RL 13 "java/lang/IllegalArgumentException", Cond.classLink RL 15 "java/lang/IllegalStateException", Cond.methodLink RL 33 yX7_build, Cond.instanceMethod yX7_build, Cond.selects RX7 yX7_build yX7_build, Cond.initialized RX7, Cond.code yX7_build cX7_build 3 (some .int), Cond.classLink RX7 94 "java/lang/IllegalArgumentException", Cond.initialized "java/lang/IllegalArgumentException", Cond.classLink RX7 56 "java/lang/IllegalStateException", Cond.initialized "java/lang/IllegalStateException", Cond.fieldLink RX7 10 "PerfectPew" "sorted" "LPerfectPew$KeyList;", Cond.fieldLink RX7 19 "PerfectPew" "displacer" "LPerfectPew$Displacer;", Cond.fieldLink RX7 33 "PerfectPew" "graph" "LPerfectPew$Graph;", Cond.fieldLink RX7 26 "PerfectPew" "packer" "LPerfectPew$Packer;", Cond.fieldLink RX7 125 "PerfectPew" "built" "Z", Cond.methodLink RX7 49 yX7_requireOpen, Cond.instanceMethod yX7_requireOpen, Cond.selects RX7 yX7_requireOpen yX7_requireOpen, Cond.code yX7_requireOpen cX7_requireOpen 1 none, Cond.instanceMethod yX0_settle, Cond.initialized RX0, Cond.selects RX0 yX0_settle yX0_settle, Cond.code yX0_settle cX0_settle 4 (some .boolean)]
def wsL_build_r2 : List Cond := [Cond.fieldLink RX0 47 "PerfectPew$Displacer" "keyCount" "I", Cond.fieldLink RX0 54 "PerfectPew$Displacer" "bucketCount" "I", Cond.fieldLink RX0 57 "PerfectPew$Displacer" "seed" "I", Cond.static yX7_dividedUp, Cond.code yX7_dividedUp cX7_dividedUp 2 (some .int), Cond.methodLink RX0 60 yX0_hashKeys, Cond.instanceMethod yX0_hashKeys, Cond.selects RX0 yX0_hashKeys yX0_hashKeys, Cond.code yX0_hashKeys cX0_hashKeys 4 none, Cond.fieldLink RX0 14 "PerfectPew$Displacer" "ranksByBucket" "LPerfectPew$Groups;", Cond.fieldLink RX0 25 "PerfectPew$Displacer" "starts" "LPerfectPew$Row;", Cond.fieldLink RX0 81 "PerfectPew$Hash" "START" "LPerfectPew$Hash;", Cond.fieldLink RX0 29 "PerfectPew$Displacer" "steps" "LPerfectPew$Row;", Cond.instanceMethod yX2_restart, Cond.initialized RX2, Cond.selects RX2 yX2_restart yX2_restart, Cond.code yX2_restart cX2_restart 3 none, Cond.fieldLink RX2 24 "PerfectPew$Groups" "thingCount" "I", Cond.fieldLink RX2 28 "PerfectPew$Groups" "groupCount" "I", Cond.fieldLink RX2 18 "PerfectPew$Groups" "begins" "LPerfectPew$Row;", Cond.instanceMethod yX6_fill, Cond.initialized RX6, Cond.selects RX6 yX6_fill yX6_fill, Cond.code yX6_fill cX6_fill 2 none]
def wsL_build_r3 : List Cond := [Cond.fieldLink RX6 13 "PerfectPew$Row" "cells" "[I", Cond.methodLink RX6 19 yJ7_fill_53178, Cond.static yJ7_fill_53178, Cond.initialized RJ7, Cond.code yJ7_fill_53178 cJ7_fill_53178 4 none, Cond.instanceMethod yX4_at, Cond.initialized RX4, Cond.selects RX4 yX4_at yX4_at, Cond.code yX4_at cX4_at 2 (some .int), Cond.fieldLink RX4 14 "PerfectPew$KeyList" "places" "LPerfectPew$Row;", Cond.instanceMethod yX6_get, Cond.selects RX6 yX6_get yX6_get, Cond.code yX6_get cX6_get 2 (some .int), Cond.methodLink RX0 75 yX0_bucketOf, Cond.instanceMethod yX0_bucketOf, Cond.selects RX0 yX0_bucketOf yX0_bucketOf, Cond.code yX0_bucketOf cX0_bucketOf 2 (some .int), Cond.fieldLink RX0 146 "PerfectPew$Hash" "BUCKET" "LPerfectPew$Hash;", Cond.instanceMethod yX3_of, Cond.initialized RX3, Cond.selects RX3 yX3_of yX3_of, Cond.code yX3_of cX3_of 3 (some .int), Cond.fieldLink RX3 43 "PerfectPew$Hash" "perKey" "J", Cond.fieldLink RX3 47 "PerfectPew$Hash" "perSeed" "J"]
def wsL_build_r4 : List Cond := [Cond.fieldLink RX3 50 "PerfectPew$Hash" "more" "J", Cond.constantLong RX3 53 (1000003), Cond.static yX7_remainder, Cond.code yX7_remainder cX7_remainder 2 (some .int), Cond.instanceMethod yX2_assign, Cond.selects RX2 yX2_assign yX2_assign, Cond.code yX2_assign cX2_assign 3 none, Cond.fieldLink RX2 12 "PerfectPew$Groups" "groups" "LPerfectPew$Row;", Cond.instanceMethod yX6_set, Cond.selects RX6 yX6_set yX6_set, Cond.code yX6_set cX6_set 3 none, Cond.methodLink RX0 93 yX0_stepOf, Cond.instanceMethod yX0_stepOf, Cond.selects RX0 yX0_stepOf yX0_stepOf, Cond.code yX0_stepOf cX0_stepOf 2 (some .int), Cond.fieldLink RX0 149 "PerfectPew$Hash" "STEP" "LPerfectPew$Hash;", Cond.instanceMethod yX2_arrange, Cond.selects RX2 yX2_arrange yX2_arrange, Cond.code yX2_arrange cX2_arrange 5 none, Cond.fieldLink RX2 21 "PerfectPew$Groups" "members" "LPerfectPew$Row;", Cond.methodLink RX0 64 yX0_displaceAll, Cond.instanceMethod yX0_displaceAll, Cond.selects RX0 yX0_displaceAll yX0_displaceAll, Cond.code yX0_displaceAll cX0_displaceAll 3 (some .boolean)]
def wsL_build_r5 : List Cond := [Cond.fieldLink RX0 35 "PerfectPew$Displacer" "displacements" "LPerfectPew$Row;", Cond.fieldLink RX0 38 "PerfectPew$Displacer" "ranksByNumber" "LPerfectPew$Row;", Cond.methodLink RX0 102 yX0_largestBucket, Cond.instanceMethod yX0_largestBucket, Cond.selects RX0 yX0_largestBucket yX0_largestBucket, Cond.code yX0_largestBucket cX0_largestBucket 3 (some .int), Cond.methodLink RX0 113 Lib.Math.max.name, Cond.static Lib.Math.max.name, Cond.initialized "java/lang/Math", Cond.code Lib.Math.max.name Lib.Math.max.code 2 (some .int), Cond.instanceMethod yX2_sizeOf, Cond.selects RX2 yX2_sizeOf yX2_sizeOf, Cond.code yX2_sizeOf cX2_sizeOf 2 (some .int), Cond.methodLink RX2 42 yX2_endOf, Cond.instanceMethod yX2_endOf, Cond.selects RX2 yX2_endOf yX2_endOf, Cond.code yX2_endOf cX2_endOf 2 (some .int), Cond.methodLink RX2 45 yX2_beginOf, Cond.instanceMethod yX2_beginOf, Cond.selects RX2 yX2_beginOf yX2_beginOf, Cond.code yX2_beginOf cX2_beginOf 2 (some .int), Cond.methodLink RX0 109 yX0_displace, Cond.instanceMethod yX0_displace, Cond.selects RX0 yX0_displace yX0_displace]
def wsL_build_r6 : List Cond := [Cond.code yX0_displace cX0_displace 4 (some .boolean), Cond.methodLink RX0 118 Lib.Math.min.name, Cond.static Lib.Math.min.name, Cond.code Lib.Math.min.name Lib.Math.min.code 2 (some .int), Cond.methodLink RX0 121 yX0_place, Cond.instanceMethod yX0_place, Cond.selects RX0 yX0_place yX0_place, Cond.code yX0_place cX0_place 8 (some .boolean), Cond.fieldLink RX0 32 "PerfectPew$Displacer" "numbers" "LPerfectPew$Row;", Cond.instanceMethod yX2_memberAt, Cond.selects RX2 yX2_memberAt yX2_memberAt, Cond.code yX2_memberAt cX2_memberAt 2 (some .int), Cond.methodLink RX0 134 yX0_numberWith, Cond.instanceMethod yX0_numberWith, Cond.selects RX0 yX0_numberWith yX0_numberWith, Cond.code yX0_numberWith cX0_numberWith 3 (some .int), Cond.methodLink RX0 140 yX0_takeBack, Cond.instanceMethod yX0_takeBack, Cond.selects RX0 yX0_takeBack yX0_takeBack, Cond.code yX0_takeBack cX0_takeBack 5 none, Cond.instanceMethod yX1_settle, Cond.initialized RX1, Cond.selects RX1 yX1_settle yX1_settle, Cond.code yX1_settle cX1_settle 3 (some .boolean)]
def wsL_build_r7 : List Cond := [Cond.fieldLink RX1 41 "PerfectPew$Graph" "keyCount" "I", Cond.fieldLink RX1 44 "PerfectPew$Graph" "vertexCount" "I", Cond.fieldLink RX1 47 "PerfectPew$Graph" "seed" "I", Cond.methodLink RX1 50 yX1_layEdges, Cond.instanceMethod yX1_layEdges, Cond.selects RX1 yX1_layEdges yX1_layEdges, Cond.code yX1_layEdges cX1_layEdges 4 none, Cond.fieldLink RX1 14 "PerfectPew$Graph" "ends" "LPerfectPew$Groups;", Cond.fieldLink RX1 65 "PerfectPew$Hash" "ONE_END" "LPerfectPew$Hash;", Cond.fieldLink RX1 78 "PerfectPew$Hash" "OTHER_END" "LPerfectPew$Hash;", Cond.methodLink RX1 71 yX1_vertexOf, Cond.instanceMethod yX1_vertexOf, Cond.selects RX1 yX1_vertexOf yX1_vertexOf, Cond.code yX1_vertexOf cX1_vertexOf 3 (some .int), Cond.methodLink RX1 54 yX1_giveValues, Cond.instanceMethod yX1_giveValues, Cond.selects RX1 yX1_giveValues yX1_giveValues, Cond.code yX1_giveValues cX1_giveValues 2 (some .boolean), Cond.fieldLink RX1 29 "PerfectPew$Graph" "values" "LPerfectPew$Row;", Cond.fieldLink RX1 25 "PerfectPew$Graph" "walked" "LPerfectPew$Row;", Cond.methodLink RX1 90 yX1_walkFrom, Cond.instanceMethod yX1_walkFrom, Cond.selects RX1 yX1_walkFrom yX1_walkFrom, Cond.code yX1_walkFrom cX1_walkFrom 3 (some .boolean)]
def wsL_build_r8 : List Cond := [Cond.fieldLink RX1 94 "PerfectPew$Graph" "reachedCount" "I", Cond.fieldLink RX1 32 "PerfectPew$Graph" "reached" "LPerfectPew$Row;", Cond.methodLink RX1 97 yX1_reach, Cond.instanceMethod yX1_reach, Cond.selects RX1 yX1_reach yX1_reach, Cond.code yX1_reach cX1_reach 3 none, Cond.methodLink RX1 100 yX1_walkOn, Cond.instanceMethod yX1_walkOn, Cond.selects RX1 yX1_walkOn yX1_walkOn, Cond.code yX1_walkOn cX1_walkOn 6 (some .boolean), Cond.instanceMethod yX2_groupOf, Cond.selects RX2 yX2_groupOf yX2_groupOf, Cond.code yX2_groupOf cX2_groupOf 2 (some .int), Cond.methodLink RX7 112 yX7_keepFingerprints, Cond.instanceMethod yX7_keepFingerprints, Cond.selects RX7 yX7_keepFingerprints yX7_keepFingerprints, Cond.code yX7_keepFingerprints cX7_keepFingerprints 3 none, Cond.fieldLink RX7 196 "PerfectPew" "fingerprintMask" "I", Cond.fieldLink RX7 42 "PerfectPew" "fingerprints" "LPerfectPew$Row;", Cond.methodLink RX7 143 yX7_keyWithNumber, Cond.instanceMethod yX7_keyWithNumber, Cond.selects RX7 yX7_keyWithNumber yX7_keyWithNumber, Cond.code yX7_keyWithNumber cX7_keyWithNumber 2 (some .int), Cond.methodLink RX7 199 yX7_fingerprintOf]
def wsL_build_r9 : List Cond := [Cond.instanceMethod yX7_fingerprintOf, Cond.selects RX7 yX7_fingerprintOf yX7_fingerprintOf, Cond.code yX7_fingerprintOf cX7_fingerprintOf 2 (some .int), Cond.fieldLink RX7 205 "PerfectPew$Hash" "FINGERPRINT" "LPerfectPew$Hash;", Cond.instanceMethod yX5_pack, Cond.initialized RX5, Cond.selects RX5 yX5_pack yX5_pack, Cond.code yX5_pack cX5_pack 4 none, Cond.fieldLink RX5 9 "PerfectPew$Packer" "words" "[J", Cond.fieldLink RX5 29 "PerfectPew$Packer" "bitsEach" "I", Cond.fieldLink RX5 37 "PerfectPew$Packer" "wordCount" "I", Cond.methodLink RX5 15 yJ7_fill_d0a16, Cond.static yJ7_fill_d0a16, Cond.code yJ7_fill_d0a16 cJ7_fill_d0a16 5 none, Cond.methodLink RX5 21 yX5_greatest, Cond.static yX5_greatest, Cond.code yX5_greatest cX5_greatest 4 (some .int), Cond.methodLink RX5 49 Lib.Math.max.name, Cond.methodLink RX5 25 yX5_widthFor, Cond.static yX5_widthFor, Cond.code yX5_widthFor cX5_widthFor 2 (some .int), Cond.methodLink RX5 45 yX5_write, Cond.instanceMethod yX5_write, Cond.selects RX5 yX5_write yX5_write]
def wsL_build_r10 : List Cond := [Cond.code yX5_write cX5_write 6 none, Cond.methodLink RX5 54 yX5_join, Cond.instanceMethod yX5_join, Cond.selects RX5 yX5_join yX5_join, Cond.code yX5_join cX5_join 4 none]
def wsL_build : List Cond := .codeWith yL_build cL_build 5 (some .int) [(0, 10, 13, 13), (0, 10, 17, 15)] :: ((wsL_build_r1 ++ (wsL_build_r2 ++ (wsL_build_r3 ++ (wsL_build_r4 ++ (wsL_build_r5 ++ (wsL_build_r6 ++ (wsL_build_r7 ++ (wsL_build_r8 ++ (wsL_build_r9 ++ wsL_build_r10))))))))) ++ wsX70 ++ wsX40 ++ wsX00 ++ wsX20 ++ wsX60 ++ wsX10 ++ wsX50 ++ (vx_atS RX7 98 "java/lang/IllegalArgumentException" ["java/lang/RuntimeException", "java/lang/Exception"]).filter goodWord ++ (vx_atS RX7 60 "java/lang/IllegalStateException" ["java/lang/RuntimeException", "java/lang/Exception"]).filter goodWord)
def wsL_reopen : List Cond := .codeWith yL_reopen cL_reopen 2 (some .int) [(0, 4, 7, 15)] :: ([.classLink RL 15 "java/lang/IllegalStateException", .methodLink RL 37 yX7_reopen, .instanceMethod yX7_reopen, .selects RX7 yX7_reopen yX7_reopen, .initialized RX7, .code yX7_reopen cX7_reopen 1 none, .fieldLink RX7 125 "PerfectPew" "built" "Z", .methodLink RX7 132 yX7_requireBuilt, .instanceMethod yX7_requireBuilt, .selects RX7 yX7_requireBuilt yX7_requireBuilt, .code yX7_requireBuilt cX7_requireBuilt 1 none, .classLink RX7 56 "java/lang/IllegalStateException", .initialized "java/lang/IllegalStateException"] ++ wsX70 ++ (vx_atS RX7 60 "java/lang/IllegalStateException" ["java/lang/RuntimeException", "java/lang/Exception"]).filter goodWord)
def wsL_number_r1 : List Cond := [Cond.classLink RL 13 "java/lang/IllegalArgumentException", Cond.classLink RL 15 "java/lang/IllegalStateException", Cond.methodLink RL 40 yX7_number, Cond.instanceMethod yX7_number, Cond.selects RX7 yX7_number yX7_number, Cond.initialized RX7, Cond.code yX7_number cX7_number 2 (some .int), Cond.fieldLink RX7 19 "PerfectPew" "displacer" "LPerfectPew$Displacer;", Cond.methodLink RX7 46 yX7_requireKey, Cond.static yX7_requireKey, Cond.code yX7_requireKey cX7_requireKey 1 none, Cond.classLink RX7 94 "java/lang/IllegalArgumentException", Cond.initialized "java/lang/IllegalArgumentException", Cond.constant RX7 178 (99999), Cond.methodLink RX7 132 yX7_requireBuilt, Cond.instanceMethod yX7_requireBuilt, Cond.selects RX7 yX7_requireBuilt yX7_requireBuilt, Cond.code yX7_requireBuilt cX7_requireBuilt 1 none, Cond.classLink RX7 56 "java/lang/IllegalStateException", Cond.initialized "java/lang/IllegalStateException", Cond.fieldLink RX7 125 "PerfectPew" "built" "Z", Cond.instanceMethod yX0_numberOf, Cond.initialized RX0, Cond.selects RX0 yX0_numberOf yX0_numberOf]
def wsL_number_r2 : List Cond := [Cond.code yX0_numberOf cX0_numberOf 3 (some .int), Cond.fieldLink RX0 35 "PerfectPew$Displacer" "displacements" "LPerfectPew$Row;", Cond.fieldLink RX0 81 "PerfectPew$Hash" "START" "LPerfectPew$Hash;", Cond.fieldLink RX0 57 "PerfectPew$Displacer" "seed" "I", Cond.fieldLink RX0 47 "PerfectPew$Displacer" "keyCount" "I", Cond.methodLink RX0 75 yX0_bucketOf, Cond.instanceMethod yX0_bucketOf, Cond.selects RX0 yX0_bucketOf yX0_bucketOf, Cond.code yX0_bucketOf cX0_bucketOf 2 (some .int), Cond.fieldLink RX0 146 "PerfectPew$Hash" "BUCKET" "LPerfectPew$Hash;", Cond.fieldLink RX0 54 "PerfectPew$Displacer" "bucketCount" "I", Cond.instanceMethod yX3_of, Cond.initialized RX3, Cond.selects RX3 yX3_of yX3_of, Cond.code yX3_of cX3_of 3 (some .int), Cond.fieldLink RX3 43 "PerfectPew$Hash" "perKey" "J", Cond.fieldLink RX3 47 "PerfectPew$Hash" "perSeed" "J", Cond.fieldLink RX3 50 "PerfectPew$Hash" "more" "J", Cond.constantLong RX3 53 (1000003), Cond.static yX7_remainder, Cond.code yX7_remainder cX7_remainder 2 (some .int), Cond.instanceMethod yX6_get, Cond.initialized RX6, Cond.selects RX6 yX6_get yX6_get]
def wsL_number_r3 : List Cond := [Cond.code yX6_get cX6_get 2 (some .int), Cond.fieldLink RX6 13 "PerfectPew$Row" "cells" "[I", Cond.methodLink RX0 93 yX0_stepOf, Cond.instanceMethod yX0_stepOf, Cond.selects RX0 yX0_stepOf yX0_stepOf, Cond.code yX0_stepOf cX0_stepOf 2 (some .int), Cond.fieldLink RX0 149 "PerfectPew$Hash" "STEP" "LPerfectPew$Hash;"]
def wsL_number : List Cond := .codeWith yL_number cL_number 4 (some .int) [(0, 9, 12, 13), (0, 9, 15, 15)] :: ((wsL_number_r1 ++ (wsL_number_r2 ++ wsL_number_r3)) ++ wsX70 ++ wsX00 ++ wsX60 ++ (vx_atS RX7 98 "java/lang/IllegalArgumentException" ["java/lang/RuntimeException", "java/lang/Exception"]).filter goodWord ++ (vx_atS RX7 60 "java/lang/IllegalStateException" ["java/lang/RuntimeException", "java/lang/Exception"]).filter goodWord)
def wsL_find_r1 : List Cond := [Cond.classLink RL 13 "java/lang/IllegalArgumentException", Cond.classLink RL 15 "java/lang/IllegalStateException", Cond.methodLink RL 43 yX7_find, Cond.instanceMethod yX7_find, Cond.selects RX7 yX7_find yX7_find, Cond.initialized RX7, Cond.code yX7_find cX7_find 2 (some .int), Cond.methodLink RX7 46 yX7_requireKey, Cond.static yX7_requireKey, Cond.code yX7_requireKey cX7_requireKey 1 none, Cond.classLink RX7 94 "java/lang/IllegalArgumentException", Cond.initialized "java/lang/IllegalArgumentException", Cond.constant RX7 178 (99999), Cond.methodLink RX7 132 yX7_requireBuilt, Cond.instanceMethod yX7_requireBuilt, Cond.selects RX7 yX7_requireBuilt yX7_requireBuilt, Cond.code yX7_requireBuilt cX7_requireBuilt 1 none, Cond.classLink RX7 56 "java/lang/IllegalStateException", Cond.initialized "java/lang/IllegalStateException", Cond.fieldLink RX7 125 "PerfectPew" "built" "Z", Cond.methodLink RX7 138 yX7_lookUp, Cond.instanceMethod yX7_lookUp, Cond.selects RX7 yX7_lookUp yX7_lookUp, Cond.code yX7_lookUp cX7_lookUp 3 (some .int)]
def wsL_find_r2 : List Cond := [Cond.fieldLink RX7 19 "PerfectPew" "displacer" "LPerfectPew$Displacer;", Cond.fieldLink RX7 42 "PerfectPew" "fingerprints" "LPerfectPew$Row;", Cond.instanceMethod yX0_numberOf, Cond.initialized RX0, Cond.selects RX0 yX0_numberOf yX0_numberOf, Cond.code yX0_numberOf cX0_numberOf 3 (some .int), Cond.fieldLink RX0 35 "PerfectPew$Displacer" "displacements" "LPerfectPew$Row;", Cond.fieldLink RX0 81 "PerfectPew$Hash" "START" "LPerfectPew$Hash;", Cond.fieldLink RX0 57 "PerfectPew$Displacer" "seed" "I", Cond.fieldLink RX0 47 "PerfectPew$Displacer" "keyCount" "I", Cond.methodLink RX0 75 yX0_bucketOf, Cond.instanceMethod yX0_bucketOf, Cond.selects RX0 yX0_bucketOf yX0_bucketOf, Cond.code yX0_bucketOf cX0_bucketOf 2 (some .int), Cond.fieldLink RX0 146 "PerfectPew$Hash" "BUCKET" "LPerfectPew$Hash;", Cond.fieldLink RX0 54 "PerfectPew$Displacer" "bucketCount" "I", Cond.instanceMethod yX3_of, Cond.initialized RX3, Cond.selects RX3 yX3_of yX3_of, Cond.code yX3_of cX3_of 3 (some .int), Cond.fieldLink RX3 43 "PerfectPew$Hash" "perKey" "J", Cond.fieldLink RX3 47 "PerfectPew$Hash" "perSeed" "J", Cond.fieldLink RX3 50 "PerfectPew$Hash" "more" "J", Cond.constantLong RX3 53 (1000003)]
def wsL_find_r3 : List Cond := [Cond.static yX7_remainder, Cond.code yX7_remainder cX7_remainder 2 (some .int), Cond.instanceMethod yX6_get, Cond.initialized RX6, Cond.selects RX6 yX6_get yX6_get, Cond.code yX6_get cX6_get 2 (some .int), Cond.fieldLink RX6 13 "PerfectPew$Row" "cells" "[I", Cond.methodLink RX0 93 yX0_stepOf, Cond.instanceMethod yX0_stepOf, Cond.selects RX0 yX0_stepOf yX0_stepOf, Cond.code yX0_stepOf cX0_stepOf 2 (some .int), Cond.fieldLink RX0 149 "PerfectPew$Hash" "STEP" "LPerfectPew$Hash;", Cond.methodLink RX7 199 yX7_fingerprintOf, Cond.instanceMethod yX7_fingerprintOf, Cond.selects RX7 yX7_fingerprintOf yX7_fingerprintOf, Cond.code yX7_fingerprintOf cX7_fingerprintOf 2 (some .int), Cond.fieldLink RX7 205 "PerfectPew$Hash" "FINGERPRINT" "LPerfectPew$Hash;", Cond.fieldLink RX7 196 "PerfectPew" "fingerprintMask" "I"]
def wsL_find : List Cond := .codeWith yL_find cL_find 4 (some .int) [(0, 9, 12, 13), (0, 9, 15, 15)] :: ((wsL_find_r1 ++ (wsL_find_r2 ++ wsL_find_r3)) ++ wsX70 ++ wsX00 ++ wsX60 ++ (vx_atS RX7 98 "java/lang/IllegalArgumentException" ["java/lang/RuntimeException", "java/lang/Exception"]).filter goodWord ++ (vx_atS RX7 60 "java/lang/IllegalStateException" ["java/lang/RuntimeException", "java/lang/Exception"]).filter goodWord)
def wsL_strangers_r1 : List Cond := [Cond.classLink RL 13 "java/lang/IllegalArgumentException", Cond.classLink RL 15 "java/lang/IllegalStateException", Cond.methodLink RL 46 yX7_strangers, Cond.instanceMethod yX7_strangers, Cond.selects RX7 yX7_strangers yX7_strangers, Cond.initialized RX7, Cond.code yX7_strangers cX7_strangers 5 (some .int), Cond.classLink RX7 94 "java/lang/IllegalArgumentException", Cond.initialized "java/lang/IllegalArgumentException", Cond.fieldLink RX7 10 "PerfectPew" "sorted" "LPerfectPew$KeyList;", Cond.methodLink RX7 46 yX7_requireKey, Cond.static yX7_requireKey, Cond.code yX7_requireKey cX7_requireKey 1 none, Cond.constant RX7 178 (99999), Cond.methodLink RX7 132 yX7_requireBuilt, Cond.instanceMethod yX7_requireBuilt, Cond.selects RX7 yX7_requireBuilt yX7_requireBuilt, Cond.code yX7_requireBuilt cX7_requireBuilt 1 none, Cond.classLink RX7 56 "java/lang/IllegalStateException", Cond.initialized "java/lang/IllegalStateException", Cond.fieldLink RX7 125 "PerfectPew" "built" "Z", Cond.methodLink RX7 138 yX7_lookUp, Cond.instanceMethod yX7_lookUp, Cond.selects RX7 yX7_lookUp yX7_lookUp]
def wsL_strangers_r2 : List Cond := [Cond.code yX7_lookUp cX7_lookUp 3 (some .int), Cond.fieldLink RX7 19 "PerfectPew" "displacer" "LPerfectPew$Displacer;", Cond.fieldLink RX7 42 "PerfectPew" "fingerprints" "LPerfectPew$Row;", Cond.instanceMethod yX0_numberOf, Cond.initialized RX0, Cond.selects RX0 yX0_numberOf yX0_numberOf, Cond.code yX0_numberOf cX0_numberOf 3 (some .int), Cond.fieldLink RX0 35 "PerfectPew$Displacer" "displacements" "LPerfectPew$Row;", Cond.fieldLink RX0 81 "PerfectPew$Hash" "START" "LPerfectPew$Hash;", Cond.fieldLink RX0 57 "PerfectPew$Displacer" "seed" "I", Cond.fieldLink RX0 47 "PerfectPew$Displacer" "keyCount" "I", Cond.methodLink RX0 75 yX0_bucketOf, Cond.instanceMethod yX0_bucketOf, Cond.selects RX0 yX0_bucketOf yX0_bucketOf, Cond.code yX0_bucketOf cX0_bucketOf 2 (some .int), Cond.fieldLink RX0 146 "PerfectPew$Hash" "BUCKET" "LPerfectPew$Hash;", Cond.fieldLink RX0 54 "PerfectPew$Displacer" "bucketCount" "I", Cond.instanceMethod yX3_of, Cond.initialized RX3, Cond.selects RX3 yX3_of yX3_of, Cond.code yX3_of cX3_of 3 (some .int), Cond.fieldLink RX3 43 "PerfectPew$Hash" "perKey" "J", Cond.fieldLink RX3 47 "PerfectPew$Hash" "perSeed" "J", Cond.fieldLink RX3 50 "PerfectPew$Hash" "more" "J"]
def wsL_strangers_r3 : List Cond := [Cond.constantLong RX3 53 (1000003), Cond.static yX7_remainder, Cond.code yX7_remainder cX7_remainder 2 (some .int), Cond.instanceMethod yX6_get, Cond.initialized RX6, Cond.selects RX6 yX6_get yX6_get, Cond.code yX6_get cX6_get 2 (some .int), Cond.fieldLink RX6 13 "PerfectPew$Row" "cells" "[I", Cond.methodLink RX0 93 yX0_stepOf, Cond.instanceMethod yX0_stepOf, Cond.selects RX0 yX0_stepOf yX0_stepOf, Cond.code yX0_stepOf cX0_stepOf 2 (some .int), Cond.fieldLink RX0 149 "PerfectPew$Hash" "STEP" "LPerfectPew$Hash;", Cond.methodLink RX7 199 yX7_fingerprintOf, Cond.instanceMethod yX7_fingerprintOf, Cond.selects RX7 yX7_fingerprintOf yX7_fingerprintOf, Cond.code yX7_fingerprintOf cX7_fingerprintOf 2 (some .int), Cond.fieldLink RX7 205 "PerfectPew$Hash" "FINGERPRINT" "LPerfectPew$Hash;", Cond.fieldLink RX7 196 "PerfectPew" "fingerprintMask" "I", Cond.instanceMethod yX4_holds, Cond.initialized RX4, Cond.selects RX4 yX4_holds yX4_holds, Cond.code yX4_holds cX4_holds 3 (some .boolean), Cond.fieldLink RX4 24 "PerfectPew$KeyList" "size" "I"]
def wsL_strangers_r4 : List Cond := [Cond.fieldLink RX4 14 "PerfectPew$KeyList" "places" "LPerfectPew$Row;", Cond.methodLink RX4 28 yX4_rankOf, Cond.instanceMethod yX4_rankOf, Cond.selects RX4 yX4_rankOf yX4_rankOf, Cond.code yX4_rankOf cX4_rankOf 5 (some .int)]
def wsL_strangers : List Cond := .codeWith yL_strangers cL_strangers 5 (some .int) [(0, 10, 13, 13), (0, 10, 17, 15)] :: ((wsL_strangers_r1 ++ (wsL_strangers_r2 ++ (wsL_strangers_r3 ++ wsL_strangers_r4))) ++ wsX70 ++ wsX00 ++ wsX60 ++ wsX40 ++ (vx_atS RX7 98 "java/lang/IllegalArgumentException" ["java/lang/RuntimeException", "java/lang/Exception"]).filter goodWord ++ (vx_atS RX7 60 "java/lang/IllegalStateException" ["java/lang/RuntimeException", "java/lang/Exception"]).filter goodWord)
def wsL_keyOf_r1 : List Cond := [Cond.classLink RL 15 "java/lang/IllegalStateException", Cond.classLink RL 31 "java/lang/IndexOutOfBoundsException", Cond.methodLink RL 49 yX7_keyOf, Cond.instanceMethod yX7_keyOf, Cond.selects RX7 yX7_keyOf yX7_keyOf, Cond.initialized RX7, Cond.code yX7_keyOf cX7_keyOf 2 (some .int), Cond.fieldLink RX7 10 "PerfectPew" "sorted" "LPerfectPew$KeyList;", Cond.methodLink RX7 132 yX7_requireBuilt, Cond.instanceMethod yX7_requireBuilt, Cond.selects RX7 yX7_requireBuilt yX7_requireBuilt, Cond.code yX7_requireBuilt cX7_requireBuilt 1 none, Cond.classLink RX7 56 "java/lang/IllegalStateException", Cond.initialized "java/lang/IllegalStateException", Cond.fieldLink RX7 125 "PerfectPew" "built" "Z", Cond.methodLink RX7 86 yX7_requireBelow, Cond.static yX7_requireBelow, Cond.code yX7_requireBelow cX7_requireBelow 2 none, Cond.classLink RX7 185 "java/lang/IndexOutOfBoundsException", Cond.initialized "java/lang/IndexOutOfBoundsException", Cond.methodLink RX7 143 yX7_keyWithNumber, Cond.instanceMethod yX7_keyWithNumber, Cond.selects RX7 yX7_keyWithNumber yX7_keyWithNumber, Cond.code yX7_keyWithNumber cX7_keyWithNumber 2 (some .int)]
def wsL_keyOf_r2 : List Cond := [Cond.fieldLink RX7 19 "PerfectPew" "displacer" "LPerfectPew$Displacer;", Cond.instanceMethod yX6_get, Cond.initialized RX6, Cond.selects RX6 yX6_get yX6_get, Cond.code yX6_get cX6_get 2 (some .int), Cond.fieldLink RX6 13 "PerfectPew$Row" "cells" "[I", Cond.instanceMethod yX4_at, Cond.initialized RX4, Cond.selects RX4 yX4_at yX4_at, Cond.code yX4_at cX4_at 2 (some .int), Cond.fieldLink RX4 14 "PerfectPew$KeyList" "places" "LPerfectPew$Row;"]
def wsL_keyOf : List Cond := .codeWith yL_keyOf cL_keyOf 4 (some .int) [(0, 9, 12, 15), (0, 9, 15, 31)] :: ((wsL_keyOf_r1 ++ wsL_keyOf_r2) ++ wsX70 ++ wsX40 ++ wsX00 ++ wsX60 ++ (vx_atS RX7 60 "java/lang/IllegalStateException" ["java/lang/RuntimeException", "java/lang/Exception"]).filter goodWord ++ (vx_atS RX7 189 "java/lang/IndexOutOfBoundsException" ["java/lang/RuntimeException", "java/lang/Exception"]).filter goodWord)
def wsL_fingerprint_r1 : List Cond := [Cond.classLink RL 15 "java/lang/IllegalStateException", Cond.classLink RL 31 "java/lang/IndexOutOfBoundsException", Cond.methodLink RL 52 yX7_fingerprint, Cond.instanceMethod yX7_fingerprint, Cond.selects RX7 yX7_fingerprint yX7_fingerprint, Cond.initialized RX7, Cond.code yX7_fingerprint cX7_fingerprint 2 (some .int), Cond.fieldLink RX7 10 "PerfectPew" "sorted" "LPerfectPew$KeyList;", Cond.fieldLink RX7 42 "PerfectPew" "fingerprints" "LPerfectPew$Row;", Cond.methodLink RX7 132 yX7_requireBuilt, Cond.instanceMethod yX7_requireBuilt, Cond.selects RX7 yX7_requireBuilt yX7_requireBuilt, Cond.code yX7_requireBuilt cX7_requireBuilt 1 none, Cond.classLink RX7 56 "java/lang/IllegalStateException", Cond.initialized "java/lang/IllegalStateException", Cond.fieldLink RX7 125 "PerfectPew" "built" "Z", Cond.methodLink RX7 86 yX7_requireBelow, Cond.static yX7_requireBelow, Cond.code yX7_requireBelow cX7_requireBelow 2 none, Cond.classLink RX7 185 "java/lang/IndexOutOfBoundsException", Cond.initialized "java/lang/IndexOutOfBoundsException", Cond.instanceMethod yX6_get, Cond.initialized RX6, Cond.selects RX6 yX6_get yX6_get]
def wsL_fingerprint_r2 : List Cond := [Cond.code yX6_get cX6_get 2 (some .int), Cond.fieldLink RX6 13 "PerfectPew$Row" "cells" "[I"]
def wsL_fingerprint : List Cond := .codeWith yL_fingerprint cL_fingerprint 4 (some .int) [(0, 9, 12, 15), (0, 9, 15, 31)] :: ((wsL_fingerprint_r1 ++ wsL_fingerprint_r2) ++ wsX70 ++ wsX40 ++ wsX60 ++ (vx_atS RX7 60 "java/lang/IllegalStateException" ["java/lang/RuntimeException", "java/lang/Exception"]).filter goodWord ++ (vx_atS RX7 189 "java/lang/IndexOutOfBoundsException" ["java/lang/RuntimeException", "java/lang/Exception"]).filter goodWord)
def wsL_seed : List Cond := .codeWith yL_seed cL_seed 3 (some .int) [(0, 8, 11, 15)] :: ([.classLink RL 15 "java/lang/IllegalStateException", .methodLink RL 55 yX7_seed, .instanceMethod yX7_seed, .selects RX7 yX7_seed yX7_seed, .initialized RX7, .code yX7_seed cX7_seed 1 (some .int), .fieldLink RX7 19 "PerfectPew" "displacer" "LPerfectPew$Displacer;", .methodLink RX7 132 yX7_requireBuilt, .instanceMethod yX7_requireBuilt, .selects RX7 yX7_requireBuilt yX7_requireBuilt, .code yX7_requireBuilt cX7_requireBuilt 1 none, .classLink RX7 56 "java/lang/IllegalStateException", .initialized "java/lang/IllegalStateException", .fieldLink RX7 125 "PerfectPew" "built" "Z"] ++ wsX70 ++ wsX00 ++ (vx_atS RX7 60 "java/lang/IllegalStateException" ["java/lang/RuntimeException", "java/lang/Exception"]).filter goodWord)
def wsL_buckets : List Cond := .codeWith yL_buckets cL_buckets 3 (some .int) [(0, 8, 11, 15)] :: ([.classLink RL 15 "java/lang/IllegalStateException", .methodLink RL 59 yX7_buckets, .instanceMethod yX7_buckets, .selects RX7 yX7_buckets yX7_buckets, .initialized RX7, .code yX7_buckets cX7_buckets 1 (some .int), .fieldLink RX7 19 "PerfectPew" "displacer" "LPerfectPew$Displacer;", .methodLink RX7 132 yX7_requireBuilt, .instanceMethod yX7_requireBuilt, .selects RX7 yX7_requireBuilt yX7_requireBuilt, .code yX7_requireBuilt cX7_requireBuilt 1 none, .classLink RX7 56 "java/lang/IllegalStateException", .initialized "java/lang/IllegalStateException", .fieldLink RX7 125 "PerfectPew" "built" "Z"] ++ wsX70 ++ wsX00 ++ (vx_atS RX7 60 "java/lang/IllegalStateException" ["java/lang/RuntimeException", "java/lang/Exception"]).filter goodWord)
def wsL_inBucket_r1 : List Cond := [Cond.classLink RL 15 "java/lang/IllegalStateException", Cond.classLink RL 31 "java/lang/IndexOutOfBoundsException", Cond.methodLink RL 62 yX7_inBucket, Cond.instanceMethod yX7_inBucket, Cond.selects RX7 yX7_inBucket yX7_inBucket, Cond.initialized RX7, Cond.code yX7_inBucket cX7_inBucket 2 (some .int), Cond.fieldLink RX7 19 "PerfectPew" "displacer" "LPerfectPew$Displacer;", Cond.methodLink RX7 132 yX7_requireBuilt, Cond.instanceMethod yX7_requireBuilt, Cond.selects RX7 yX7_requireBuilt yX7_requireBuilt, Cond.code yX7_requireBuilt cX7_requireBuilt 1 none, Cond.classLink RX7 56 "java/lang/IllegalStateException", Cond.initialized "java/lang/IllegalStateException", Cond.fieldLink RX7 125 "PerfectPew" "built" "Z", Cond.methodLink RX7 86 yX7_requireBelow, Cond.static yX7_requireBelow, Cond.code yX7_requireBelow cX7_requireBelow 2 none, Cond.classLink RX7 185 "java/lang/IndexOutOfBoundsException", Cond.initialized "java/lang/IndexOutOfBoundsException", Cond.instanceMethod yX2_sizeOf, Cond.initialized RX2, Cond.selects RX2 yX2_sizeOf yX2_sizeOf, Cond.code yX2_sizeOf cX2_sizeOf 2 (some .int)]
def wsL_inBucket_r2 : List Cond := [Cond.methodLink RX2 42 yX2_endOf, Cond.instanceMethod yX2_endOf, Cond.selects RX2 yX2_endOf yX2_endOf, Cond.code yX2_endOf cX2_endOf 2 (some .int), Cond.fieldLink RX2 18 "PerfectPew$Groups" "begins" "LPerfectPew$Row;", Cond.instanceMethod yX6_get, Cond.initialized RX6, Cond.selects RX6 yX6_get yX6_get, Cond.code yX6_get cX6_get 2 (some .int), Cond.fieldLink RX6 13 "PerfectPew$Row" "cells" "[I", Cond.methodLink RX2 45 yX2_beginOf, Cond.instanceMethod yX2_beginOf, Cond.selects RX2 yX2_beginOf yX2_beginOf, Cond.code yX2_beginOf cX2_beginOf 2 (some .int)]
def wsL_inBucket : List Cond := .codeWith yL_inBucket cL_inBucket 4 (some .int) [(0, 9, 12, 15), (0, 9, 15, 31)] :: ((wsL_inBucket_r1 ++ wsL_inBucket_r2) ++ wsX70 ++ wsX00 ++ wsX20 ++ wsX60 ++ (vx_atS RX7 60 "java/lang/IllegalStateException" ["java/lang/RuntimeException", "java/lang/Exception"]).filter goodWord ++ (vx_atS RX7 189 "java/lang/IndexOutOfBoundsException" ["java/lang/RuntimeException", "java/lang/Exception"]).filter goodWord)
def wsL_displacement_r1 : List Cond := [Cond.classLink RL 15 "java/lang/IllegalStateException", Cond.classLink RL 31 "java/lang/IndexOutOfBoundsException", Cond.methodLink RL 65 yX7_displacement, Cond.instanceMethod yX7_displacement, Cond.selects RX7 yX7_displacement yX7_displacement, Cond.initialized RX7, Cond.code yX7_displacement cX7_displacement 2 (some .int), Cond.fieldLink RX7 19 "PerfectPew" "displacer" "LPerfectPew$Displacer;", Cond.methodLink RX7 132 yX7_requireBuilt, Cond.instanceMethod yX7_requireBuilt, Cond.selects RX7 yX7_requireBuilt yX7_requireBuilt, Cond.code yX7_requireBuilt cX7_requireBuilt 1 none, Cond.classLink RX7 56 "java/lang/IllegalStateException", Cond.initialized "java/lang/IllegalStateException", Cond.fieldLink RX7 125 "PerfectPew" "built" "Z", Cond.methodLink RX7 86 yX7_requireBelow, Cond.static yX7_requireBelow, Cond.code yX7_requireBelow cX7_requireBelow 2 none, Cond.classLink RX7 185 "java/lang/IndexOutOfBoundsException", Cond.initialized "java/lang/IndexOutOfBoundsException", Cond.instanceMethod yX6_get, Cond.initialized RX6, Cond.selects RX6 yX6_get yX6_get, Cond.code yX6_get cX6_get 2 (some .int)]
def wsL_displacement_r2 : List Cond := [Cond.fieldLink RX6 13 "PerfectPew$Row" "cells" "[I"]
def wsL_displacement : List Cond := .codeWith yL_displacement cL_displacement 4 (some .int) [(0, 9, 12, 15), (0, 9, 15, 31)] :: ((wsL_displacement_r1 ++ wsL_displacement_r2) ++ wsX70 ++ wsX00 ++ wsX60 ++ (vx_atS RX7 60 "java/lang/IllegalStateException" ["java/lang/RuntimeException", "java/lang/Exception"]).filter goodWord ++ (vx_atS RX7 189 "java/lang/IndexOutOfBoundsException" ["java/lang/RuntimeException", "java/lang/Exception"]).filter goodWord)
def wsL_width : List Cond := .codeWith yL_width cL_width 3 (some .int) [(0, 8, 11, 15)] :: ([.classLink RL 15 "java/lang/IllegalStateException", .methodLink RL 68 yX7_width, .instanceMethod yX7_width, .selects RX7 yX7_width yX7_width, .initialized RX7, .code yX7_width cX7_width 1 (some .int), .fieldLink RX7 26 "PerfectPew" "packer" "LPerfectPew$Packer;", .methodLink RX7 132 yX7_requireBuilt, .instanceMethod yX7_requireBuilt, .selects RX7 yX7_requireBuilt yX7_requireBuilt, .code yX7_requireBuilt cX7_requireBuilt 1 none, .classLink RX7 56 "java/lang/IllegalStateException", .initialized "java/lang/IllegalStateException", .fieldLink RX7 125 "PerfectPew" "built" "Z"] ++ wsX70 ++ wsX50 ++ (vx_atS RX7 60 "java/lang/IllegalStateException" ["java/lang/RuntimeException", "java/lang/Exception"]).filter goodWord)
def wsL_word_r1 : List Cond := [Cond.classLink RL 15 "java/lang/IllegalStateException", Cond.classLink RL 31 "java/lang/IndexOutOfBoundsException", Cond.methodLink RL 71 yX7_word, Cond.instanceMethod yX7_word, Cond.selects RX7 yX7_word yX7_word, Cond.initialized RX7, Cond.code yX7_word cX7_word 2 (some .long), Cond.fieldLink RX7 26 "PerfectPew" "packer" "LPerfectPew$Packer;", Cond.methodLink RX7 132 yX7_requireBuilt, Cond.instanceMethod yX7_requireBuilt, Cond.selects RX7 yX7_requireBuilt yX7_requireBuilt, Cond.code yX7_requireBuilt cX7_requireBuilt 1 none, Cond.classLink RX7 56 "java/lang/IllegalStateException", Cond.initialized "java/lang/IllegalStateException", Cond.fieldLink RX7 125 "PerfectPew" "built" "Z", Cond.methodLink RX7 86 yX7_requireBelow, Cond.static yX7_requireBelow, Cond.code yX7_requireBelow cX7_requireBelow 2 none, Cond.classLink RX7 185 "java/lang/IndexOutOfBoundsException", Cond.initialized "java/lang/IndexOutOfBoundsException", Cond.instanceMethod yX5_wordAt, Cond.initialized RX5, Cond.selects RX5 yX5_wordAt yX5_wordAt, Cond.code yX5_wordAt cX5_wordAt 2 (some .long)]
def wsL_word_r2 : List Cond := [Cond.fieldLink RX5 9 "PerfectPew$Packer" "words" "[J"]
def wsL_word : List Cond := .codeWith yL_word cL_word 4 (some .int) [(0, 8, 11, 15), (0, 8, 14, 31)] :: ((wsL_word_r1 ++ wsL_word_r2) ++ wsX70 ++ wsX50 ++ (vx_atS RX7 60 "java/lang/IllegalStateException" ["java/lang/RuntimeException", "java/lang/Exception"]).filter goodWord ++ (vx_atS RX7 189 "java/lang/IndexOutOfBoundsException" ["java/lang/RuntimeException", "java/lang/Exception"]).filter goodWord)
def wsL_byGraph_r1 : List Cond := [Cond.classLink RL 13 "java/lang/IllegalArgumentException", Cond.classLink RL 15 "java/lang/IllegalStateException", Cond.methodLink RL 75 yX7_byGraph, Cond.instanceMethod yX7_byGraph, Cond.selects RX7 yX7_byGraph yX7_byGraph, Cond.initialized RX7, Cond.code yX7_byGraph cX7_byGraph 2 (some .int), Cond.fieldLink RX7 33 "PerfectPew" "graph" "LPerfectPew$Graph;", Cond.methodLink RX7 46 yX7_requireKey, Cond.static yX7_requireKey, Cond.code yX7_requireKey cX7_requireKey 1 none, Cond.classLink RX7 94 "java/lang/IllegalArgumentException", Cond.initialized "java/lang/IllegalArgumentException", Cond.constant RX7 178 (99999), Cond.methodLink RX7 132 yX7_requireBuilt, Cond.instanceMethod yX7_requireBuilt, Cond.selects RX7 yX7_requireBuilt yX7_requireBuilt, Cond.code yX7_requireBuilt cX7_requireBuilt 1 none, Cond.classLink RX7 56 "java/lang/IllegalStateException", Cond.initialized "java/lang/IllegalStateException", Cond.fieldLink RX7 125 "PerfectPew" "built" "Z", Cond.instanceMethod yX1_sumFor, Cond.initialized RX1, Cond.selects RX1 yX1_sumFor yX1_sumFor]
def wsL_byGraph_r2 : List Cond := [Cond.code yX1_sumFor cX1_sumFor 4 (some .int), Cond.fieldLink RX1 29 "PerfectPew$Graph" "values" "LPerfectPew$Row;", Cond.fieldLink RX1 65 "PerfectPew$Hash" "ONE_END" "LPerfectPew$Hash;", Cond.fieldLink RX1 78 "PerfectPew$Hash" "OTHER_END" "LPerfectPew$Hash;", Cond.fieldLink RX1 41 "PerfectPew$Graph" "keyCount" "I", Cond.methodLink RX1 71 yX1_vertexOf, Cond.instanceMethod yX1_vertexOf, Cond.selects RX1 yX1_vertexOf yX1_vertexOf, Cond.code yX1_vertexOf cX1_vertexOf 3 (some .int), Cond.fieldLink RX1 47 "PerfectPew$Graph" "seed" "I", Cond.fieldLink RX1 44 "PerfectPew$Graph" "vertexCount" "I", Cond.instanceMethod yX3_of, Cond.initialized RX3, Cond.selects RX3 yX3_of yX3_of, Cond.code yX3_of cX3_of 3 (some .int), Cond.fieldLink RX3 43 "PerfectPew$Hash" "perKey" "J", Cond.fieldLink RX3 47 "PerfectPew$Hash" "perSeed" "J", Cond.fieldLink RX3 50 "PerfectPew$Hash" "more" "J", Cond.constantLong RX3 53 (1000003), Cond.static yX7_remainder, Cond.code yX7_remainder cX7_remainder 2 (some .int), Cond.instanceMethod yX6_get, Cond.initialized RX6, Cond.selects RX6 yX6_get yX6_get]
def wsL_byGraph_r3 : List Cond := [Cond.code yX6_get cX6_get 2 (some .int), Cond.fieldLink RX6 13 "PerfectPew$Row" "cells" "[I"]
def wsL_byGraph : List Cond := .codeWith yL_byGraph cL_byGraph 4 (some .int) [(0, 9, 12, 13), (0, 9, 15, 15)] :: ((wsL_byGraph_r1 ++ (wsL_byGraph_r2 ++ wsL_byGraph_r3)) ++ wsX70 ++ wsX10 ++ wsX60 ++ (vx_atS RX7 98 "java/lang/IllegalArgumentException" ["java/lang/RuntimeException", "java/lang/Exception"]).filter goodWord ++ (vx_atS RX7 60 "java/lang/IllegalStateException" ["java/lang/RuntimeException", "java/lang/Exception"]).filter goodWord)
def wsL_graphSeed : List Cond := .codeWith yL_graphSeed cL_graphSeed 3 (some .int) [(0, 8, 11, 15)] :: ([.classLink RL 15 "java/lang/IllegalStateException", .methodLink RL 78 yX7_graphSeed, .instanceMethod yX7_graphSeed, .selects RX7 yX7_graphSeed yX7_graphSeed, .initialized RX7, .code yX7_graphSeed cX7_graphSeed 1 (some .int), .fieldLink RX7 33 "PerfectPew" "graph" "LPerfectPew$Graph;", .methodLink RX7 132 yX7_requireBuilt, .instanceMethod yX7_requireBuilt, .selects RX7 yX7_requireBuilt yX7_requireBuilt, .code yX7_requireBuilt cX7_requireBuilt 1 none, .classLink RX7 56 "java/lang/IllegalStateException", .initialized "java/lang/IllegalStateException", .fieldLink RX7 125 "PerfectPew" "built" "Z"] ++ wsX70 ++ wsX10 ++ (vx_atS RX7 60 "java/lang/IllegalStateException" ["java/lang/RuntimeException", "java/lang/Exception"]).filter goodWord)
def wsL_valueOf_r1 : List Cond := [Cond.classLink RL 15 "java/lang/IllegalStateException", Cond.classLink RL 31 "java/lang/IndexOutOfBoundsException", Cond.methodLink RL 81 yX7_valueOf, Cond.instanceMethod yX7_valueOf, Cond.selects RX7 yX7_valueOf yX7_valueOf, Cond.initialized RX7, Cond.code yX7_valueOf cX7_valueOf 2 (some .int), Cond.fieldLink RX7 33 "PerfectPew" "graph" "LPerfectPew$Graph;", Cond.methodLink RX7 132 yX7_requireBuilt, Cond.instanceMethod yX7_requireBuilt, Cond.selects RX7 yX7_requireBuilt yX7_requireBuilt, Cond.code yX7_requireBuilt cX7_requireBuilt 1 none, Cond.classLink RX7 56 "java/lang/IllegalStateException", Cond.initialized "java/lang/IllegalStateException", Cond.fieldLink RX7 125 "PerfectPew" "built" "Z", Cond.methodLink RX7 86 yX7_requireBelow, Cond.static yX7_requireBelow, Cond.code yX7_requireBelow cX7_requireBelow 2 none, Cond.classLink RX7 185 "java/lang/IndexOutOfBoundsException", Cond.initialized "java/lang/IndexOutOfBoundsException", Cond.instanceMethod yX6_get, Cond.initialized RX6, Cond.selects RX6 yX6_get yX6_get, Cond.code yX6_get cX6_get 2 (some .int)]
def wsL_valueOf_r2 : List Cond := [Cond.fieldLink RX6 13 "PerfectPew$Row" "cells" "[I"]
def wsL_valueOf : List Cond := .codeWith yL_valueOf cL_valueOf 4 (some .int) [(0, 9, 12, 15), (0, 9, 15, 31)] :: ((wsL_valueOf_r1 ++ wsL_valueOf_r2) ++ wsX70 ++ wsX10 ++ wsX60 ++ (vx_atS RX7 60 "java/lang/IllegalStateException" ["java/lang/RuntimeException", "java/lang/Exception"]).filter goodWord ++ (vx_atS RX7 189 "java/lang/IndexOutOfBoundsException" ["java/lang/RuntimeException", "java/lang/Exception"]).filter goodWord)
def wsL_law0_r1 : List Cond := [Cond.classLink RL 8 RX7, Cond.instantiable RX7 7, Cond.initialized RX7, Cond.classLink RL 85 RX8, Cond.instantiable RX8 20, Cond.initialized RX8, Cond.arrayClass .long, Cond.methodLink RL 84 yX7_init, Cond.instanceMethod yX7_init, Cond.code yX7_init cX7_init 1 none, Cond.methodLink RX7 1 objectInit, Cond.instanceMethod objectInit, Cond.code objectInit ⟨#[0xb1]⟩ 1 none, Cond.classLink RX7 7 RX4, Cond.instantiable RX4 2, Cond.initialized RX4, Cond.fieldLink RX7 10 "PerfectPew" "sorted" "LPerfectPew$KeyList;", Cond.classLink RX7 16 RX0, Cond.instantiable RX0 9, Cond.initialized RX0, Cond.fieldLink RX7 19 "PerfectPew" "displacer" "LPerfectPew$Displacer;", Cond.classLink RX7 23 RX5, Cond.instantiable RX5 3, Cond.initialized RX5]
def wsL_law0_r2 : List Cond := [Cond.fieldLink RX7 26 "PerfectPew" "packer" "LPerfectPew$Packer;", Cond.classLink RX7 30 RX1, Cond.instantiable RX1 8, Cond.initialized RX1, Cond.fieldLink RX7 33 "PerfectPew" "graph" "LPerfectPew$Graph;", Cond.classLink RX7 37 RX6, Cond.instantiable RX6 1, Cond.initialized RX6, Cond.fieldLink RX7 42 "PerfectPew" "fingerprints" "LPerfectPew$Row;", Cond.instanceMethod yX4_init, Cond.code yX4_init cX4_init 1 none, Cond.methodLink RX4 3 objectInit, Cond.classLink RX4 9 RX6, Cond.fieldLink RX4 14 "PerfectPew$KeyList" "places" "LPerfectPew$Row;", Cond.instanceMethod yX6_init, Cond.code yX6_init cX6_init 2 none, Cond.methodLink RX6 1 objectInit, Cond.methodLink RX6 7 Lib.Math.max.name, Cond.static Lib.Math.max.name, Cond.initialized "java/lang/Math", Cond.code Lib.Math.max.name Lib.Math.max.code 2 (some .int), Cond.arrayClass .int, Cond.fieldLink RX6 13 "PerfectPew$Row" "cells" "[I", Cond.instanceMethod yX0_init]
def wsL_law0_r3 : List Cond := [Cond.code yX0_init cX0_init 1 none, Cond.methodLink RX0 3 objectInit, Cond.classLink RX0 9 RX2, Cond.instantiable RX2 5, Cond.initialized RX2, Cond.fieldLink RX0 14 "PerfectPew$Displacer" "ranksByBucket" "LPerfectPew$Groups;", Cond.classLink RX0 20 RX6, Cond.fieldLink RX0 25 "PerfectPew$Displacer" "starts" "LPerfectPew$Row;", Cond.fieldLink RX0 29 "PerfectPew$Displacer" "steps" "LPerfectPew$Row;", Cond.fieldLink RX0 32 "PerfectPew$Displacer" "numbers" "LPerfectPew$Row;", Cond.fieldLink RX0 35 "PerfectPew$Displacer" "displacements" "LPerfectPew$Row;", Cond.fieldLink RX0 38 "PerfectPew$Displacer" "ranksByNumber" "LPerfectPew$Row;", Cond.instanceMethod yX2_init, Cond.code yX2_init cX2_init 3 none, Cond.methodLink RX2 1 objectInit, Cond.classLink RX2 7 RX6, Cond.fieldLink RX2 12 "PerfectPew$Groups" "groups" "LPerfectPew$Row;", Cond.fieldLink RX2 18 "PerfectPew$Groups" "begins" "LPerfectPew$Row;", Cond.fieldLink RX2 21 "PerfectPew$Groups" "members" "LPerfectPew$Row;", Cond.instanceMethod yX5_init, Cond.code yX5_init cX5_init 1 none, Cond.methodLink RX5 3 objectInit, Cond.fieldLink RX5 9 "PerfectPew$Packer" "words" "[J", Cond.instanceMethod yX1_init]
def wsL_law0_r4 : List Cond := [Cond.code yX1_init cX1_init 1 none, Cond.methodLink RX1 3 objectInit, Cond.classLink RX1 9 RX2, Cond.fieldLink RX1 14 "PerfectPew$Graph" "ends" "LPerfectPew$Groups;", Cond.classLink RX1 20 RX6, Cond.fieldLink RX1 25 "PerfectPew$Graph" "walked" "LPerfectPew$Row;", Cond.fieldLink RX1 29 "PerfectPew$Graph" "values" "LPerfectPew$Row;", Cond.fieldLink RX1 32 "PerfectPew$Graph" "reached" "LPerfectPew$Row;", Cond.methodLink RL 87 yX8_init, Cond.instanceMethod yX8_init, Cond.code yX8_init cX8_init 1 none, Cond.methodLink RX8 1 objectInit, Cond.fieldLink RX8 7 "PerfectPewModel" "keys" "[I", Cond.fieldLink RX8 13 "PerfectPewModel" "sizes" "[I", Cond.fieldLink RX8 16 "PerfectPewModel" "shift" "[I", Cond.fieldLink RX8 19 "PerfectPewModel" "owner" "[I", Cond.fieldLink RX8 22 "PerfectPewModel" "prints" "[I", Cond.fieldLink RX8 25 "PerfectPewModel" "some" "[I", Cond.fieldLink RX8 28 "PerfectPewModel" "triedShift" "[I", Cond.fieldLink RX8 31 "PerfectPewModel" "triedOwner" "[I", Cond.fieldLink RX8 34 "PerfectPewModel" "words" "[J", Cond.fieldLink RX8 38 "PerfectPewModel" "values" "[I", Cond.fieldLink RX8 41 "PerfectPewModel" "roots" "[I", Cond.fieldLink RX8 44 "PerfectPewModel" "ends" "[I"]
def wsL_law0_r5 : List Cond := [Cond.methodLink RL 88 yL_add, Cond.static yL_add, Cond.initialized RL, Cond.codeWith yL_add cL_add 4 (some .int) [(0, 9, 12, 13), (0, 9, 15, 15)], Cond.classLink RL 13 "java/lang/IllegalArgumentException", Cond.classLink RL 15 "java/lang/IllegalStateException", Cond.methodLink RL 7 yX7_add, Cond.instanceMethod yX7_add, Cond.selects RX7 yX7_add yX7_add, Cond.code yX7_add cX7_add 2 (some .int), Cond.classLink RX7 56 "java/lang/IllegalStateException", Cond.initialized "java/lang/IllegalStateException", Cond.methodLink RX7 46 yX7_requireKey, Cond.static yX7_requireKey, Cond.code yX7_requireKey cX7_requireKey 1 none, Cond.classLink RX7 94 "java/lang/IllegalArgumentException", Cond.initialized "java/lang/IllegalArgumentException", Cond.constant RX7 178 (99999), Cond.methodLink RX7 49 yX7_requireOpen, Cond.instanceMethod yX7_requireOpen, Cond.selects RX7 yX7_requireOpen yX7_requireOpen, Cond.code yX7_requireOpen cX7_requireOpen 1 none, Cond.fieldLink RX7 125 "PerfectPew" "built" "Z", Cond.instanceMethod yX4_holds]
def wsL_law0_r6 : List Cond := [Cond.selects RX4 yX4_holds yX4_holds, Cond.code yX4_holds cX4_holds 3 (some .boolean), Cond.fieldLink RX4 24 "PerfectPew$KeyList" "size" "I", Cond.methodLink RX4 28 yX4_rankOf, Cond.instanceMethod yX4_rankOf, Cond.selects RX4 yX4_rankOf yX4_rankOf, Cond.code yX4_rankOf cX4_rankOf 5 (some .int), Cond.instanceMethod yX6_get, Cond.selects RX6 yX6_get yX6_get, Cond.code yX6_get cX6_get 2 (some .int), Cond.methodLink RX7 63 yX7_requireRoomFor, Cond.instanceMethod yX7_requireRoomFor, Cond.selects RX7 yX7_requireRoomFor yX7_requireRoomFor, Cond.code yX7_requireRoomFor cX7_requireRoomFor 2 none, Cond.instanceMethod yX4_insert, Cond.selects RX4 yX4_insert yX4_insert, Cond.code yX4_insert cX4_insert 4 none, Cond.instanceMethod yX6_set, Cond.selects RX6 yX6_set yX6_set, Cond.code yX6_set cX6_set 3 none, Cond.methodLink RL 93 yX8_add, Cond.instanceMethod yX8_add, Cond.selects RX8 yX8_add yX8_add, Cond.code yX8_add cX8_add 2 (some .int)]
def wsL_law0_r7 : List Cond := [Cond.fieldLink RX8 47 "PerfectPewModel" "thrown" "I", Cond.constant RX8 106 (99999), Cond.fieldLink RX8 114 "PerfectPewModel" "built" "Z", Cond.fieldLink RX8 99 "PerfectPewModel" "many" "I", Cond.methodLink RX8 107 yX8_in, Cond.static yX8_in, Cond.code yX8_in cX8_in 3 (some .boolean), Cond.methodLink RX8 111 yX8_fails, Cond.instanceMethod yX8_fails, Cond.selects RX8 yX8_fails yX8_fails, Cond.code yX8_fails cX8_fails 2 (some .int), Cond.methodLink RX8 118 yX8_is, Cond.instanceMethod yX8_is, Cond.selects RX8 yX8_is yX8_is, Cond.code yX8_is cX8_is 3 (some .boolean), Cond.methodLink RX8 102 yX8_below, Cond.instanceMethod yX8_below, Cond.selects RX8 yX8_below yX8_below, Cond.code yX8_below cX8_below 3 (some .int), Cond.methodLink RX8 122 yX8_put, Cond.instanceMethod yX8_put, Cond.selects RX8 yX8_put yX8_put, Cond.code yX8_put cX8_put 4 none, Cond.methodLink RL 94 yX8_thrown]
def wsL_law0_r8 : List Cond := [Cond.instanceMethod yX8_thrown, Cond.selects RX8 yX8_thrown yX8_thrown, Cond.code yX8_thrown cX8_thrown 1 (some .int), Cond.methodLink RL 97 yL_addLine, Cond.static yL_addLine, Cond.codeWith yL_addLine cL_addLine 6 (some .int) [(0, 12, 15, 13), (0, 12, 19, 15)], Cond.methodLink RL 17 yX7_addLine, Cond.instanceMethod yX7_addLine, Cond.selects RX7 yX7_addLine yX7_addLine, Cond.code yX7_addLine cX7_addLine 6 (some .int), Cond.methodLink RX7 73 yX7_requireLine, Cond.static yX7_requireLine, Cond.code yX7_requireLine cX7_requireLine 3 none, Cond.methodLink RX7 77 yX7_newInLine, Cond.instanceMethod yX7_newInLine, Cond.selects RX7 yX7_newInLine yX7_newInLine, Cond.code yX7_newInLine cX7_newInLine 6 (some .int), Cond.methodLink RL 100 yX8_addLine, Cond.instanceMethod yX8_addLine, Cond.selects RX8 yX8_addLine yX8_addLine, Cond.code yX8_addLine cX8_addLine 6 (some .int), Cond.methodLink RL 101 yL_remove, Cond.static yL_remove, Cond.codeWith yL_remove cL_remove 4 (some .int) [(0, 9, 12, 13), (0, 9, 15, 15)]]
def wsL_law0_r9 : List Cond := [Cond.methodLink RL 21 yX7_remove, Cond.instanceMethod yX7_remove, Cond.selects RX7 yX7_remove yX7_remove, Cond.code yX7_remove cX7_remove 2 (some .int), Cond.instanceMethod yX4_delete, Cond.selects RX4 yX4_delete yX4_delete, Cond.code yX4_delete cX4_delete 3 none, Cond.methodLink RL 103 yX8_remove, Cond.instanceMethod yX8_remove, Cond.selects RX8 yX8_remove yX8_remove, Cond.code yX8_remove cX8_remove 3 (some .int), Cond.methodLink RL 104 yX7_keys, Cond.instanceMethod yX7_keys, Cond.selects RX7 yX7_keys yX7_keys, Cond.code yX7_keys cX7_keys 1 (some .int), Cond.methodLink RL 107 yX8_keys, Cond.instanceMethod yX8_keys, Cond.selects RX8 yX8_keys yX8_keys, Cond.code yX8_keys cX8_keys 1 (some .int), Cond.methodLink RL 108 yL_has, Cond.static yL_has, Cond.codeWith yL_has cL_has 4 (some .int) [(0, 16, 19, 13)], Cond.methodLink RL 24 yX7_has, Cond.instanceMethod yX7_has]
def wsL_law0_r10 : List Cond := [Cond.selects RX7 yX7_has yX7_has, Cond.code yX7_has cX7_has 2 (some .boolean), Cond.methodLink RL 110 yX8_has, Cond.instanceMethod yX8_has, Cond.selects RX8 yX8_has yX8_has, Cond.code yX8_has cX8_has 2 (some .boolean), Cond.methodLink RL 111 yL_keyAt, Cond.static yL_keyAt, Cond.codeWith yL_keyAt cL_keyAt 4 (some .int) [(0, 9, 12, 31)], Cond.classLink RL 31 "java/lang/IndexOutOfBoundsException", Cond.methodLink RL 28 yX7_keyAt, Cond.instanceMethod yX7_keyAt, Cond.selects RX7 yX7_keyAt yX7_keyAt, Cond.code yX7_keyAt cX7_keyAt 2 (some .int), Cond.methodLink RX7 86 yX7_requireBelow, Cond.static yX7_requireBelow, Cond.code yX7_requireBelow cX7_requireBelow 2 none, Cond.classLink RX7 185 "java/lang/IndexOutOfBoundsException", Cond.initialized "java/lang/IndexOutOfBoundsException", Cond.instanceMethod yX4_at, Cond.selects RX4 yX4_at yX4_at, Cond.code yX4_at cX4_at 2 (some .int), Cond.methodLink RL 113 yX8_keyAt, Cond.instanceMethod yX8_keyAt]
def wsL_law0_r11 : List Cond := [Cond.selects RX8 yX8_keyAt yX8_keyAt, Cond.code yX8_keyAt cX8_keyAt 2 (some .int), Cond.methodLink RL 114 yL_build, Cond.static yL_build, Cond.codeWith yL_build cL_build 5 (some .int) [(0, 10, 13, 13), (0, 10, 17, 15)], Cond.methodLink RL 33 yX7_build, Cond.instanceMethod yX7_build, Cond.selects RX7 yX7_build yX7_build, Cond.code yX7_build cX7_build 3 (some .int), Cond.instanceMethod yX0_settle, Cond.selects RX0 yX0_settle yX0_settle, Cond.code yX0_settle cX0_settle 4 (some .boolean), Cond.fieldLink RX0 47 "PerfectPew$Displacer" "keyCount" "I", Cond.fieldLink RX0 54 "PerfectPew$Displacer" "bucketCount" "I", Cond.fieldLink RX0 57 "PerfectPew$Displacer" "seed" "I", Cond.static yX7_dividedUp, Cond.code yX7_dividedUp cX7_dividedUp 2 (some .int), Cond.methodLink RX0 60 yX0_hashKeys, Cond.instanceMethod yX0_hashKeys, Cond.selects RX0 yX0_hashKeys yX0_hashKeys, Cond.code yX0_hashKeys cX0_hashKeys 4 none, Cond.fieldLink RX0 81 "PerfectPew$Hash" "START" "LPerfectPew$Hash;", Cond.instanceMethod yX2_restart, Cond.selects RX2 yX2_restart yX2_restart]
def wsL_law0_r12 : List Cond := [Cond.code yX2_restart cX2_restart 3 none, Cond.fieldLink RX2 24 "PerfectPew$Groups" "thingCount" "I", Cond.fieldLink RX2 28 "PerfectPew$Groups" "groupCount" "I", Cond.instanceMethod yX6_fill, Cond.selects RX6 yX6_fill yX6_fill, Cond.code yX6_fill cX6_fill 2 none, Cond.methodLink RX6 19 yJ7_fill_53178, Cond.static yJ7_fill_53178, Cond.initialized RJ7, Cond.code yJ7_fill_53178 cJ7_fill_53178 4 none, Cond.methodLink RX0 75 yX0_bucketOf, Cond.instanceMethod yX0_bucketOf, Cond.selects RX0 yX0_bucketOf yX0_bucketOf, Cond.code yX0_bucketOf cX0_bucketOf 2 (some .int), Cond.fieldLink RX0 146 "PerfectPew$Hash" "BUCKET" "LPerfectPew$Hash;", Cond.instanceMethod yX3_of, Cond.initialized RX3, Cond.selects RX3 yX3_of yX3_of, Cond.code yX3_of cX3_of 3 (some .int), Cond.fieldLink RX3 43 "PerfectPew$Hash" "perKey" "J", Cond.fieldLink RX3 47 "PerfectPew$Hash" "perSeed" "J", Cond.fieldLink RX3 50 "PerfectPew$Hash" "more" "J", Cond.constantLong RX3 53 (1000003), Cond.static yX7_remainder]
def wsL_law0_r13 : List Cond := [Cond.code yX7_remainder cX7_remainder 2 (some .int), Cond.instanceMethod yX2_assign, Cond.selects RX2 yX2_assign yX2_assign, Cond.code yX2_assign cX2_assign 3 none, Cond.methodLink RX0 93 yX0_stepOf, Cond.instanceMethod yX0_stepOf, Cond.selects RX0 yX0_stepOf yX0_stepOf, Cond.code yX0_stepOf cX0_stepOf 2 (some .int), Cond.fieldLink RX0 149 "PerfectPew$Hash" "STEP" "LPerfectPew$Hash;", Cond.instanceMethod yX2_arrange, Cond.selects RX2 yX2_arrange yX2_arrange, Cond.code yX2_arrange cX2_arrange 5 none, Cond.methodLink RX0 64 yX0_displaceAll, Cond.instanceMethod yX0_displaceAll, Cond.selects RX0 yX0_displaceAll yX0_displaceAll, Cond.code yX0_displaceAll cX0_displaceAll 3 (some .boolean), Cond.methodLink RX0 102 yX0_largestBucket, Cond.instanceMethod yX0_largestBucket, Cond.selects RX0 yX0_largestBucket yX0_largestBucket, Cond.code yX0_largestBucket cX0_largestBucket 3 (some .int), Cond.methodLink RX0 113 Lib.Math.max.name, Cond.instanceMethod yX2_sizeOf, Cond.selects RX2 yX2_sizeOf yX2_sizeOf, Cond.code yX2_sizeOf cX2_sizeOf 2 (some .int)]
def wsL_law0_r14 : List Cond := [Cond.methodLink RX2 42 yX2_endOf, Cond.instanceMethod yX2_endOf, Cond.selects RX2 yX2_endOf yX2_endOf, Cond.code yX2_endOf cX2_endOf 2 (some .int), Cond.methodLink RX2 45 yX2_beginOf, Cond.instanceMethod yX2_beginOf, Cond.selects RX2 yX2_beginOf yX2_beginOf, Cond.code yX2_beginOf cX2_beginOf 2 (some .int), Cond.methodLink RX0 109 yX0_displace, Cond.instanceMethod yX0_displace, Cond.selects RX0 yX0_displace yX0_displace, Cond.code yX0_displace cX0_displace 4 (some .boolean), Cond.methodLink RX0 118 Lib.Math.min.name, Cond.static Lib.Math.min.name, Cond.code Lib.Math.min.name Lib.Math.min.code 2 (some .int), Cond.methodLink RX0 121 yX0_place, Cond.instanceMethod yX0_place, Cond.selects RX0 yX0_place yX0_place, Cond.code yX0_place cX0_place 8 (some .boolean), Cond.instanceMethod yX2_memberAt, Cond.selects RX2 yX2_memberAt yX2_memberAt, Cond.code yX2_memberAt cX2_memberAt 2 (some .int), Cond.methodLink RX0 134 yX0_numberWith, Cond.instanceMethod yX0_numberWith]
def wsL_law0_r15 : List Cond := [Cond.selects RX0 yX0_numberWith yX0_numberWith, Cond.code yX0_numberWith cX0_numberWith 3 (some .int), Cond.methodLink RX0 140 yX0_takeBack, Cond.instanceMethod yX0_takeBack, Cond.selects RX0 yX0_takeBack yX0_takeBack, Cond.code yX0_takeBack cX0_takeBack 5 none, Cond.instanceMethod yX1_settle, Cond.selects RX1 yX1_settle yX1_settle, Cond.code yX1_settle cX1_settle 3 (some .boolean), Cond.fieldLink RX1 41 "PerfectPew$Graph" "keyCount" "I", Cond.fieldLink RX1 44 "PerfectPew$Graph" "vertexCount" "I", Cond.fieldLink RX1 47 "PerfectPew$Graph" "seed" "I", Cond.methodLink RX1 50 yX1_layEdges, Cond.instanceMethod yX1_layEdges, Cond.selects RX1 yX1_layEdges yX1_layEdges, Cond.code yX1_layEdges cX1_layEdges 4 none, Cond.fieldLink RX1 65 "PerfectPew$Hash" "ONE_END" "LPerfectPew$Hash;", Cond.fieldLink RX1 78 "PerfectPew$Hash" "OTHER_END" "LPerfectPew$Hash;", Cond.methodLink RX1 71 yX1_vertexOf, Cond.instanceMethod yX1_vertexOf, Cond.selects RX1 yX1_vertexOf yX1_vertexOf, Cond.code yX1_vertexOf cX1_vertexOf 3 (some .int), Cond.methodLink RX1 54 yX1_giveValues, Cond.instanceMethod yX1_giveValues]
def wsL_law0_r16 : List Cond := [Cond.selects RX1 yX1_giveValues yX1_giveValues, Cond.code yX1_giveValues cX1_giveValues 2 (some .boolean), Cond.methodLink RX1 90 yX1_walkFrom, Cond.instanceMethod yX1_walkFrom, Cond.selects RX1 yX1_walkFrom yX1_walkFrom, Cond.code yX1_walkFrom cX1_walkFrom 3 (some .boolean), Cond.fieldLink RX1 94 "PerfectPew$Graph" "reachedCount" "I", Cond.methodLink RX1 97 yX1_reach, Cond.instanceMethod yX1_reach, Cond.selects RX1 yX1_reach yX1_reach, Cond.code yX1_reach cX1_reach 3 none, Cond.methodLink RX1 100 yX1_walkOn, Cond.instanceMethod yX1_walkOn, Cond.selects RX1 yX1_walkOn yX1_walkOn, Cond.code yX1_walkOn cX1_walkOn 6 (some .boolean), Cond.instanceMethod yX2_groupOf, Cond.selects RX2 yX2_groupOf yX2_groupOf, Cond.code yX2_groupOf cX2_groupOf 2 (some .int), Cond.methodLink RX7 112 yX7_keepFingerprints, Cond.instanceMethod yX7_keepFingerprints, Cond.selects RX7 yX7_keepFingerprints yX7_keepFingerprints, Cond.code yX7_keepFingerprints cX7_keepFingerprints 3 none, Cond.fieldLink RX7 196 "PerfectPew" "fingerprintMask" "I", Cond.methodLink RX7 143 yX7_keyWithNumber]
def wsL_law0_r17 : List Cond := [Cond.instanceMethod yX7_keyWithNumber, Cond.selects RX7 yX7_keyWithNumber yX7_keyWithNumber, Cond.code yX7_keyWithNumber cX7_keyWithNumber 2 (some .int), Cond.methodLink RX7 199 yX7_fingerprintOf, Cond.instanceMethod yX7_fingerprintOf, Cond.selects RX7 yX7_fingerprintOf yX7_fingerprintOf, Cond.code yX7_fingerprintOf cX7_fingerprintOf 2 (some .int), Cond.fieldLink RX7 205 "PerfectPew$Hash" "FINGERPRINT" "LPerfectPew$Hash;", Cond.instanceMethod yX5_pack, Cond.selects RX5 yX5_pack yX5_pack, Cond.code yX5_pack cX5_pack 4 none, Cond.fieldLink RX5 29 "PerfectPew$Packer" "bitsEach" "I", Cond.fieldLink RX5 37 "PerfectPew$Packer" "wordCount" "I", Cond.methodLink RX5 15 yJ7_fill_d0a16, Cond.static yJ7_fill_d0a16, Cond.code yJ7_fill_d0a16 cJ7_fill_d0a16 5 none, Cond.methodLink RX5 21 yX5_greatest, Cond.static yX5_greatest, Cond.code yX5_greatest cX5_greatest 4 (some .int), Cond.methodLink RX5 49 Lib.Math.max.name, Cond.methodLink RX5 25 yX5_widthFor, Cond.static yX5_widthFor, Cond.code yX5_widthFor cX5_widthFor 2 (some .int), Cond.methodLink RX5 45 yX5_write]
def wsL_law0_r18 : List Cond := [Cond.instanceMethod yX5_write, Cond.selects RX5 yX5_write yX5_write, Cond.code yX5_write cX5_write 6 none, Cond.methodLink RX5 54 yX5_join, Cond.instanceMethod yX5_join, Cond.selects RX5 yX5_join yX5_join, Cond.code yX5_join cX5_join 4 none, Cond.methodLink RL 117 yX8_build, Cond.instanceMethod yX8_build, Cond.selects RX8 yX8_build yX8_build, Cond.code yX8_build cX8_build 7 (some .int), Cond.fieldLink RX8 162 "PerfectPewModel" "seed" "I", Cond.fieldLink RX8 165 "PerfectPewModel" "graphSeed" "I", Cond.fieldLink RX8 168 "PerfectPewModel" "bits" "I", Cond.fieldLink RX8 149 "PerfectPewModel" "bucketMany" "I", Cond.methodLink RX8 155 yX8_displaces, Cond.instanceMethod yX8_displaces, Cond.selects RX8 yX8_displaces yX8_displaces, Cond.code yX8_displaces cX8_displaces 7 (some .boolean), Cond.methodLink RX8 137 yX8_gather, Cond.instanceMethod yX8_gather, Cond.selects RX8 yX8_gather yX8_gather, Cond.code yX8_gather cX8_gather 6 (some .int), Cond.methodLink RX8 126 yX8_hash]
def wsL_law0_r19 : List Cond := [Cond.static yX8_hash, Cond.code yX8_hash cX8_hash 3 (some .int), Cond.constantLong RX8 97 (1000003), Cond.methodLink RX8 87 yX8_first, Cond.static yX8_first, Cond.code yX8_first cX8_first 1 (some .long), Cond.constantLong RX8 51 (9973), Cond.constantLong RX8 53 (104729), Cond.constantLong RX8 55 (31337), Cond.constantLong RX8 57 (611953), Cond.constantLong RX8 59 (86243), Cond.constantLong RX8 61 (756839), Cond.methodLink RX8 91 yX8_second, Cond.static yX8_second, Cond.code yX8_second cX8_second 1 (some .long), Cond.constantLong RX8 63 (7919), Cond.constantLong RX8 65 (15485), Cond.constantLong RX8 67 (27644), Cond.constantLong RX8 69 (39916), Cond.constantLong RX8 71 (65537), Cond.constantLong RX8 73 (44497), Cond.methodLink RX8 94 yX8_third, Cond.static yX8_third, Cond.code yX8_third cX8_third 1 (some .long)]
def wsL_law0_r20 : List Cond := [Cond.constantLong RX8 75 (11), Cond.constantLong RX8 77 (101), Cond.constantLong RX8 79 (1009), Cond.constantLong RX8 81 (10007), Cond.constantLong RX8 83 (313), Cond.constantLong RX8 85 (2203), Cond.methodLink RX8 143 yX8_lays, Cond.instanceMethod yX8_lays, Cond.selects RX8 yX8_lays yX8_lays, Cond.code yX8_lays cX8_lays 7 (some .boolean), Cond.methodLink RX8 140 yX8_goes, Cond.instanceMethod yX8_goes, Cond.selects RX8 yX8_goes yX8_goes, Cond.code yX8_goes cX8_goes 8 (some .boolean), Cond.methodLink RX8 133 yX8_place, Cond.static yX8_place, Cond.code yX8_place cX8_place 4 (some .int), Cond.methodLink RX8 130 yX8_stepOf, Cond.static yX8_stepOf, Cond.code yX8_stepOf cX8_stepOf 3 (some .int), Cond.methodLink RX8 159 yX8_hasNoCircle, Cond.instanceMethod yX8_hasNoCircle, Cond.selects RX8 yX8_hasNoCircle yX8_hasNoCircle, Cond.code yX8_hasNoCircle cX8_hasNoCircle 6 (some .boolean)]
def wsL_law0_r21 : List Cond := [Cond.methodLink RX8 146 yX8_root, Cond.instanceMethod yX8_root, Cond.selects RX8 yX8_root yX8_root, Cond.code yX8_root cX8_root 3 (some .int), Cond.methodLink RX8 171 yX8_print, Cond.instanceMethod yX8_print, Cond.selects RX8 yX8_print yX8_print, Cond.code yX8_print cX8_print 2 (some .int), Cond.methodLink RX8 174 yX8_layValues, Cond.instanceMethod yX8_layValues, Cond.selects RX8 yX8_layValues yX8_layValues, Cond.code yX8_layValues cX8_layValues 5 none, Cond.methodLink RX8 177 yX8_pack, Cond.instanceMethod yX8_pack, Cond.selects RX8 yX8_pack yX8_pack, Cond.code yX8_pack cX8_pack 5 none, Cond.fieldLink RX8 152 "PerfectPewModel" "width" "I", Cond.methodLink RL 118 yL_reopen, Cond.static yL_reopen, Cond.codeWith yL_reopen cL_reopen 2 (some .int) [(0, 4, 7, 15)], Cond.methodLink RL 37 yX7_reopen, Cond.instanceMethod yX7_reopen, Cond.selects RX7 yX7_reopen yX7_reopen, Cond.code yX7_reopen cX7_reopen 1 none]
def wsL_law0_r22 : List Cond := [Cond.methodLink RX7 132 yX7_requireBuilt, Cond.instanceMethod yX7_requireBuilt, Cond.selects RX7 yX7_requireBuilt yX7_requireBuilt, Cond.code yX7_requireBuilt cX7_requireBuilt 1 none, Cond.methodLink RL 121 yX8_reopen, Cond.instanceMethod yX8_reopen, Cond.selects RX8 yX8_reopen yX8_reopen, Cond.code yX8_reopen cX8_reopen 1 none, Cond.methodLink RL 122 yX7_isBuilt, Cond.instanceMethod yX7_isBuilt, Cond.selects RX7 yX7_isBuilt yX7_isBuilt, Cond.code yX7_isBuilt cX7_isBuilt 1 (some .boolean), Cond.methodLink RL 126 yX8_isBuilt, Cond.instanceMethod yX8_isBuilt, Cond.selects RX8 yX8_isBuilt yX8_isBuilt, Cond.code yX8_isBuilt cX8_isBuilt 1 (some .boolean), Cond.methodLink RL 127 yL_number, Cond.static yL_number, Cond.codeWith yL_number cL_number 4 (some .int) [(0, 9, 12, 13), (0, 9, 15, 15)], Cond.methodLink RL 40 yX7_number, Cond.instanceMethod yX7_number, Cond.selects RX7 yX7_number yX7_number, Cond.code yX7_number cX7_number 2 (some .int), Cond.instanceMethod yX0_numberOf]
def wsL_law0_r23 : List Cond := [Cond.selects RX0 yX0_numberOf yX0_numberOf, Cond.code yX0_numberOf cX0_numberOf 3 (some .int), Cond.methodLink RL 129 yX8_number, Cond.instanceMethod yX8_number, Cond.selects RX8 yX8_number yX8_number, Cond.code yX8_number cX8_number 2 (some .int), Cond.methodLink RX8 180 yX8_numberOf, Cond.instanceMethod yX8_numberOf, Cond.selects RX8 yX8_numberOf yX8_numberOf, Cond.code yX8_numberOf cX8_numberOf 2 (some .int), Cond.methodLink RL 130 yL_find, Cond.static yL_find, Cond.codeWith yL_find cL_find 4 (some .int) [(0, 9, 12, 13), (0, 9, 15, 15)], Cond.methodLink RL 43 yX7_find, Cond.instanceMethod yX7_find, Cond.selects RX7 yX7_find yX7_find, Cond.code yX7_find cX7_find 2 (some .int), Cond.methodLink RX7 138 yX7_lookUp, Cond.instanceMethod yX7_lookUp, Cond.selects RX7 yX7_lookUp yX7_lookUp, Cond.code yX7_lookUp cX7_lookUp 3 (some .int), Cond.methodLink RL 132 yX8_find, Cond.instanceMethod yX8_find, Cond.selects RX8 yX8_find yX8_find]
def wsL_law0_r24 : List Cond := [Cond.code yX8_find cX8_find 2 (some .int), Cond.methodLink RX8 183 yX8_found, Cond.instanceMethod yX8_found, Cond.selects RX8 yX8_found yX8_found, Cond.code yX8_found cX8_found 3 (some .int), Cond.methodLink RL 133 yL_strangers, Cond.static yL_strangers, Cond.codeWith yL_strangers cL_strangers 5 (some .int) [(0, 10, 13, 13), (0, 10, 17, 15)], Cond.methodLink RL 46 yX7_strangers, Cond.instanceMethod yX7_strangers, Cond.selects RX7 yX7_strangers yX7_strangers, Cond.code yX7_strangers cX7_strangers 5 (some .int), Cond.methodLink RL 135 yX8_strangers, Cond.instanceMethod yX8_strangers, Cond.selects RX8 yX8_strangers yX8_strangers, Cond.code yX8_strangers cX8_strangers 5 (some .int), Cond.methodLink RL 136 yL_keyOf, Cond.static yL_keyOf, Cond.codeWith yL_keyOf cL_keyOf 4 (some .int) [(0, 9, 12, 15), (0, 9, 15, 31)], Cond.methodLink RL 49 yX7_keyOf, Cond.instanceMethod yX7_keyOf, Cond.selects RX7 yX7_keyOf yX7_keyOf, Cond.code yX7_keyOf cX7_keyOf 2 (some .int), Cond.methodLink RL 138 yX8_keyOf]
def wsL_law0_r25 : List Cond := [Cond.instanceMethod yX8_keyOf, Cond.selects RX8 yX8_keyOf yX8_keyOf, Cond.code yX8_keyOf cX8_keyOf 3 (some .int), Cond.methodLink RX8 186 yX8_told, Cond.instanceMethod yX8_told, Cond.selects RX8 yX8_told yX8_told, Cond.code yX8_told cX8_told 3 (some .int), Cond.methodLink RL 139 yL_fingerprint, Cond.static yL_fingerprint, Cond.codeWith yL_fingerprint cL_fingerprint 4 (some .int) [(0, 9, 12, 15), (0, 9, 15, 31)], Cond.methodLink RL 52 yX7_fingerprint, Cond.instanceMethod yX7_fingerprint, Cond.selects RX7 yX7_fingerprint yX7_fingerprint, Cond.code yX7_fingerprint cX7_fingerprint 2 (some .int), Cond.methodLink RL 141 yX8_fingerprint, Cond.instanceMethod yX8_fingerprint, Cond.selects RX8 yX8_fingerprint yX8_fingerprint, Cond.code yX8_fingerprint cX8_fingerprint 3 (some .int), Cond.methodLink RL 142 yL_seed, Cond.static yL_seed, Cond.codeWith yL_seed cL_seed 3 (some .int) [(0, 8, 11, 15)], Cond.methodLink RL 55 yX7_seed, Cond.instanceMethod yX7_seed, Cond.selects RX7 yX7_seed yX7_seed]
def wsL_law0_r26 : List Cond := [Cond.code yX7_seed cX7_seed 1 (some .int), Cond.methodLink RL 145 yX8_seed, Cond.instanceMethod yX8_seed, Cond.selects RX8 yX8_seed yX8_seed, Cond.code yX8_seed cX8_seed 1 (some .int), Cond.methodLink RL 146 yL_buckets, Cond.static yL_buckets, Cond.codeWith yL_buckets cL_buckets 3 (some .int) [(0, 8, 11, 15)], Cond.methodLink RL 59 yX7_buckets, Cond.instanceMethod yX7_buckets, Cond.selects RX7 yX7_buckets yX7_buckets, Cond.code yX7_buckets cX7_buckets 1 (some .int), Cond.methodLink RL 148 yX8_buckets, Cond.instanceMethod yX8_buckets, Cond.selects RX8 yX8_buckets yX8_buckets, Cond.code yX8_buckets cX8_buckets 1 (some .int), Cond.methodLink RL 149 yL_inBucket, Cond.static yL_inBucket, Cond.codeWith yL_inBucket cL_inBucket 4 (some .int) [(0, 9, 12, 15), (0, 9, 15, 31)], Cond.methodLink RL 62 yX7_inBucket, Cond.instanceMethod yX7_inBucket, Cond.selects RX7 yX7_inBucket yX7_inBucket, Cond.code yX7_inBucket cX7_inBucket 2 (some .int), Cond.methodLink RL 151 yX8_inBucket]
def wsL_law0_r27 : List Cond := [Cond.instanceMethod yX8_inBucket, Cond.selects RX8 yX8_inBucket yX8_inBucket, Cond.code yX8_inBucket cX8_inBucket 3 (some .int), Cond.methodLink RL 152 yL_displacement, Cond.static yL_displacement, Cond.codeWith yL_displacement cL_displacement 4 (some .int) [(0, 9, 12, 15), (0, 9, 15, 31)], Cond.methodLink RL 65 yX7_displacement, Cond.instanceMethod yX7_displacement, Cond.selects RX7 yX7_displacement yX7_displacement, Cond.code yX7_displacement cX7_displacement 2 (some .int), Cond.methodLink RL 154 yX8_displacement, Cond.instanceMethod yX8_displacement, Cond.selects RX8 yX8_displacement yX8_displacement, Cond.code yX8_displacement cX8_displacement 3 (some .int), Cond.methodLink RL 155 yL_width, Cond.static yL_width, Cond.codeWith yL_width cL_width 3 (some .int) [(0, 8, 11, 15)], Cond.methodLink RL 68 yX7_width, Cond.instanceMethod yX7_width, Cond.selects RX7 yX7_width yX7_width, Cond.code yX7_width cX7_width 1 (some .int), Cond.methodLink RL 157 yX8_width, Cond.instanceMethod yX8_width, Cond.selects RX8 yX8_width yX8_width]
def wsL_law0_r28 : List Cond := [Cond.code yX8_width cX8_width 1 (some .int), Cond.methodLink RL 158 yL_word, Cond.static yL_word, Cond.codeWith yL_word cL_word 4 (some .int) [(0, 8, 11, 15), (0, 8, 14, 31)], Cond.methodLink RL 71 yX7_word, Cond.instanceMethod yX7_word, Cond.selects RX7 yX7_word yX7_word, Cond.code yX7_word cX7_word 2 (some .long), Cond.instanceMethod yX5_wordAt, Cond.selects RX5 yX5_wordAt yX5_wordAt, Cond.code yX5_wordAt cX5_wordAt 2 (some .long), Cond.methodLink RL 160 yX8_word, Cond.instanceMethod yX8_word, Cond.selects RX8 yX8_word yX8_word, Cond.code yX8_word cX8_word 2 (some .long), Cond.methodLink RL 161 yL_byGraph, Cond.static yL_byGraph, Cond.codeWith yL_byGraph cL_byGraph 4 (some .int) [(0, 9, 12, 13), (0, 9, 15, 15)], Cond.methodLink RL 75 yX7_byGraph, Cond.instanceMethod yX7_byGraph, Cond.selects RX7 yX7_byGraph yX7_byGraph, Cond.code yX7_byGraph cX7_byGraph 2 (some .int), Cond.instanceMethod yX1_sumFor, Cond.selects RX1 yX1_sumFor yX1_sumFor]
def wsL_law0_r29 : List Cond := [Cond.code yX1_sumFor cX1_sumFor 4 (some .int), Cond.methodLink RL 163 yX8_byGraph, Cond.instanceMethod yX8_byGraph, Cond.selects RX8 yX8_byGraph yX8_byGraph, Cond.code yX8_byGraph cX8_byGraph 2 (some .int), Cond.methodLink RL 164 yL_graphSeed, Cond.static yL_graphSeed, Cond.codeWith yL_graphSeed cL_graphSeed 3 (some .int) [(0, 8, 11, 15)], Cond.methodLink RL 78 yX7_graphSeed, Cond.instanceMethod yX7_graphSeed, Cond.selects RX7 yX7_graphSeed yX7_graphSeed, Cond.code yX7_graphSeed cX7_graphSeed 1 (some .int), Cond.methodLink RL 166 yX8_graphSeed, Cond.instanceMethod yX8_graphSeed, Cond.selects RX8 yX8_graphSeed yX8_graphSeed, Cond.code yX8_graphSeed cX8_graphSeed 1 (some .int), Cond.methodLink RL 167 yL_valueOf, Cond.static yL_valueOf, Cond.codeWith yL_valueOf cL_valueOf 4 (some .int) [(0, 9, 12, 15), (0, 9, 15, 31)], Cond.methodLink RL 81 yX7_valueOf, Cond.instanceMethod yX7_valueOf, Cond.selects RX7 yX7_valueOf yX7_valueOf, Cond.code yX7_valueOf cX7_valueOf 2 (some .int), Cond.methodLink RL 169 yX8_valueOf]
def wsL_law0_r30 : List Cond := [Cond.instanceMethod yX8_valueOf, Cond.selects RX8 yX8_valueOf yX8_valueOf, Cond.code yX8_valueOf cX8_valueOf 3 (some .int)]
def wsL_law0 : List Cond := (wsL_law0_r1 ++ (wsL_law0_r2 ++ (wsL_law0_r3 ++ (wsL_law0_r4 ++ (wsL_law0_r5 ++ (wsL_law0_r6 ++ (wsL_law0_r7 ++ (wsL_law0_r8 ++ (wsL_law0_r9 ++ (wsL_law0_r10 ++ (wsL_law0_r11 ++ (wsL_law0_r12 ++ (wsL_law0_r13 ++ (wsL_law0_r14 ++ (wsL_law0_r15 ++ (wsL_law0_r16 ++ (wsL_law0_r17 ++ (wsL_law0_r18 ++ (wsL_law0_r19 ++ (wsL_law0_r20 ++ (wsL_law0_r21 ++ (wsL_law0_r22 ++ (wsL_law0_r23 ++ (wsL_law0_r24 ++ (wsL_law0_r25 ++ (wsL_law0_r26 ++ (wsL_law0_r27 ++ (wsL_law0_r28 ++ (wsL_law0_r29 ++ wsL_law0_r30))))))))))))))))))))))))))))) ++ wsX70 ++ wsX80 ++ wsX40 ++ wsX00 ++ wsX50 ++ wsX10 ++ wsX60 ++ wsX20 ++ ([] : List Cond)
def wsL_law : List Cond := wsL_law0 ++ (vx_atS RX7 60 "java/lang/IllegalStateException" ["java/lang/RuntimeException", "java/lang/Exception"]).filter goodWord ++ (vx_atS RX7 98 "java/lang/IllegalArgumentException" ["java/lang/RuntimeException", "java/lang/Exception"]).filter goodWord ++ (vx_atS RX7 189 "java/lang/IndexOutOfBoundsException" ["java/lang/RuntimeException", "java/lang/Exception"]).filter goodWord
end
section
set_option maxRecDepth 20000 in
theorem ggX0_init_X2_init : GoodIn wsX0_init wsX2_init := goodIn_r _ [17, 18, 2, 3, 19, 9, 10, 20, 21, 22, 23, 24, 25, 26, 27, 28, 29, 30, 31, 46, 32, 33, 34, 35, 36] (by decide +kernel) (by decide +kernel)
set_option maxRecDepth 20000 in
theorem gX0_init_X2_init_n11 : GoodIn wsX0_init (wsX2_init) := ggX0_init_X2_init
set_option maxRecDepth 20000 in
theorem ggX0_init_X6_init : GoodIn wsX0_init wsX6_init := goodIn_r _ [24, 25, 2, 3, 26, 27, 28, 29, 30, 31, 46] (by decide +kernel) (by decide +kernel)
set_option maxRecDepth 20000 in
theorem gX0_init_X6_init_n22 : GoodIn wsX0_init (wsX6_init) := ggX0_init_X6_init
theorem dX0_init_0 : decode cX0_init 0 = .ok (.aload_n 0, 1) := by decide +kernel
theorem dX0_init_1 : decode cX0_init 1 = .ok (.invokespecial 3, 3) := by decide +kernel
theorem dX0_init_4 : decode cX0_init 4 = .ok (.aload_n 0, 1) := by decide +kernel
theorem dX0_init_5 : decode cX0_init 5 = .ok (.new 9, 3) := by decide +kernel
theorem dX0_init_8 : decode cX0_init 8 = .ok (.dup, 1) := by decide +kernel
theorem dX0_init_9 : decode cX0_init 9 = .ok (.bipush 120, 2) := by decide +kernel
theorem dX0_init_11 : decode cX0_init 11 = .ok (.bipush 120, 2) := by decide +kernel
theorem dX0_init_13 : decode cX0_init 13 = .ok (.invokespecial 11, 3) := by decide +kernel
theorem dX0_init_16 : decode cX0_init 16 = .ok (.putfield 14, 3) := by decide +kernel
theorem dX0_init_19 : decode cX0_init 19 = .ok (.aload_n 0, 1) := by decide +kernel
theorem dX0_init_20 : decode cX0_init 20 = .ok (.new 20, 3) := by decide +kernel
theorem dX0_init_23 : decode cX0_init 23 = .ok (.dup, 1) := by decide +kernel
theorem dX0_init_24 : decode cX0_init 24 = .ok (.bipush 120, 2) := by decide +kernel
theorem dX0_init_26 : decode cX0_init 26 = .ok (.invokespecial 22, 3) := by decide +kernel
theorem dX0_init_29 : decode cX0_init 29 = .ok (.putfield 25, 3) := by decide +kernel
theorem dX0_init_32 : decode cX0_init 32 = .ok (.aload_n 0, 1) := by decide +kernel
theorem dX0_init_33 : decode cX0_init 33 = .ok (.new 20, 3) := by decide +kernel
theorem dX0_init_36 : decode cX0_init 36 = .ok (.dup, 1) := by decide +kernel
theorem dX0_init_37 : decode cX0_init 37 = .ok (.bipush 120, 2) := by decide +kernel
theorem dX0_init_39 : decode cX0_init 39 = .ok (.invokespecial 22, 3) := by decide +kernel
theorem dX0_init_42 : decode cX0_init 42 = .ok (.putfield 29, 3) := by decide +kernel
theorem dX0_init_45 : decode cX0_init 45 = .ok (.aload_n 0, 1) := by decide +kernel
theorem dX0_init_46 : decode cX0_init 46 = .ok (.new 20, 3) := by decide +kernel
theorem dX0_init_49 : decode cX0_init 49 = .ok (.dup, 1) := by decide +kernel
theorem dX0_init_50 : decode cX0_init 50 = .ok (.bipush 120, 2) := by decide +kernel
theorem dX0_init_52 : decode cX0_init 52 = .ok (.invokespecial 22, 3) := by decide +kernel
theorem dX0_init_55 : decode cX0_init 55 = .ok (.putfield 32, 3) := by decide +kernel
theorem dX0_init_58 : decode cX0_init 58 = .ok (.aload_n 0, 1) := by decide +kernel
theorem dX0_init_59 : decode cX0_init 59 = .ok (.new 20, 3) := by decide +kernel
theorem dX0_init_62 : decode cX0_init 62 = .ok (.dup, 1) := by decide +kernel
theorem dX0_init_63 : decode cX0_init 63 = .ok (.bipush 120, 2) := by decide +kernel
theorem dX0_init_65 : decode cX0_init 65 = .ok (.invokespecial 22, 3) := by decide +kernel
theorem dX0_init_68 : decode cX0_init 68 = .ok (.putfield 35, 3) := by decide +kernel
theorem dX0_init_71 : decode cX0_init 71 = .ok (.aload_n 0, 1) := by decide +kernel
theorem dX0_init_72 : decode cX0_init 72 = .ok (.new 20, 3) := by decide +kernel
theorem dX0_init_75 : decode cX0_init 75 = .ok (.dup, 1) := by decide +kernel
theorem dX0_init_76 : decode cX0_init 76 = .ok (.bipush 120, 2) := by decide +kernel
theorem dX0_init_78 : decode cX0_init 78 = .ok (.invokespecial 22, 3) := by decide +kernel
theorem dX0_init_81 : decode cX0_init 81 = .ok (.putfield 38, 3) := by decide +kernel
theorem dX0_init_84 : decode cX0_init 84 = .ok (.return_, 1) := by decide +kernel
set_option maxRecDepth 20000 in
theorem ggX0_settle_X7_dividedUp : GoodIn wsX0_settle wsX7_dividedUp := goodIn_r _ [6] (by decide +kernel) (by decide +kernel)
set_option maxRecDepth 20000 in
theorem gX0_settle_X7_dividedUp_n50 : GoodIn wsX0_settle (wsX7_dividedUp) := ggX0_settle_X7_dividedUp
set_option maxRecDepth 20000 in
theorem ggX0_settle_X0_hashKeys : GoodIn wsX0_settle wsX0_hashKeys := goodIn_r _ [11, 12, 1, 2, 13, 14, 3, 15, 16, 17, 18, 19, 20, 21, 22, 23, 24, 25, 26, 27, 28, 29, 30, 31, 32, 33, 34, 35, 36, 37, 38, 39, 40, 41, 42, 10, 43, 44, 45, 46, 47, 48, 49, 50, 51, 52, 53, 5, 54, 55, 56, 57, 58, 59, 60, 61, 62, 63, 64, 65, 66, 67, 68, 69, 70, 121, 122, 123, 124, 125, 126, 127, 128, 129, 130, 131, 132, 133, 134, 135, 119, 120] (by decide +kernel) (by decide +kernel)
set_option maxRecDepth 20000 in
theorem gX0_settle_X0_hashKeys : GoodIn wsX0_settle (wsV RX0 60 RX0 yX0_hashKeys wsX0_hashKeys) := goodIn_app (goodIn_of _ (by decide +kernel)) ggX0_settle_X0_hashKeys
set_option maxRecDepth 20000 in
theorem ggX0_settle_X0_displaceAll : GoodIn wsX0_settle wsX0_displaceAll := goodIn_r _ [74, 75, 76, 2, 12, 23, 24, 25, 26, 27, 28, 29, 30, 31, 77, 78, 79, 10, 80, 81, 82, 83, 84, 85, 17, 86, 87, 88, 89, 90, 91, 22, 37, 38, 39, 92, 93, 94, 95, 96, 97, 98, 99, 1, 100, 101, 102, 103, 104, 105, 106, 107, 108, 109, 110, 70, 111, 112, 113, 114, 13, 15, 53, 5, 54, 115, 116, 117, 118, 59, 60, 61, 121, 122, 123, 124, 125, 126, 127, 128, 129, 135, 130, 131, 132, 133, 134] (by decide +kernel) (by decide +kernel)
set_option maxRecDepth 20000 in
theorem gX0_settle_X0_displaceAll : GoodIn wsX0_settle (wsV RX0 64 RX0 yX0_displaceAll wsX0_displaceAll) := goodIn_app (goodIn_of _ (by decide +kernel)) ggX0_settle_X0_displaceAll
theorem dX0_settle_0 : decode cX0_settle 0 = .ok (.aload_n 0, 1) := by decide +kernel
theorem dX0_settle_1 : decode cX0_settle 1 = .ok (.aload_n 1, 1) := by decide +kernel
theorem dX0_settle_2 : decode cX0_settle 2 = .ok (.getfield 41, 3) := by decide +kernel
theorem dX0_settle_5 : decode cX0_settle 5 = .ok (.putfield 47, 3) := by decide +kernel
theorem dX0_settle_8 : decode cX0_settle 8 = .ok (.aload_n 0, 1) := by decide +kernel
theorem dX0_settle_9 : decode cX0_settle 9 = .ok (.aload_n 0, 1) := by decide +kernel
theorem dX0_settle_10 : decode cX0_settle 10 = .ok (.getfield 47, 3) := by decide +kernel
theorem dX0_settle_13 : decode cX0_settle 13 = .ok (.iload_n 2, 1) := by decide +kernel
theorem dX0_settle_14 : decode cX0_settle 14 = .ok (.invokestatic 50, 3) := by decide +kernel
theorem dX0_settle_17 : decode cX0_settle 17 = .ok (.putfield 54, 3) := by decide +kernel
theorem dX0_settle_20 : decode cX0_settle 20 = .ok (.iconst 0, 1) := by decide +kernel
theorem dX0_settle_21 : decode cX0_settle 21 = .ok (.istore_n 3, 1) := by decide +kernel
theorem dX0_settle_22 : decode cX0_settle 22 = .ok (.iload_n 3, 1) := by decide +kernel
theorem dX0_settle_23 : decode cX0_settle 23 = .ok (.bipush 40, 2) := by decide +kernel
theorem dX0_settle_25 : decode cX0_settle 25 = .ok (.if_icmp .ge 28, 3) := by decide +kernel
theorem dX0_settle_28 : decode cX0_settle 28 = .ok (.aload_n 0, 1) := by decide +kernel
theorem dX0_settle_29 : decode cX0_settle 29 = .ok (.iload_n 3, 1) := by decide +kernel
theorem dX0_settle_30 : decode cX0_settle 30 = .ok (.putfield 57, 3) := by decide +kernel
theorem dX0_settle_33 : decode cX0_settle 33 = .ok (.aload_n 0, 1) := by decide +kernel
theorem dX0_settle_34 : decode cX0_settle 34 = .ok (.aload_n 1, 1) := by decide +kernel
theorem dX0_settle_35 : decode cX0_settle 35 = .ok (.invokevirtual 60, 3) := by decide +kernel
theorem dX0_settle_38 : decode cX0_settle 38 = .ok (.aload_n 0, 1) := by decide +kernel
theorem dX0_settle_39 : decode cX0_settle 39 = .ok (.invokevirtual 64, 3) := by decide +kernel
theorem dX0_settle_42 : decode cX0_settle 42 = .ok (.ifCond .eq 5, 3) := by decide +kernel
theorem dX0_settle_45 : decode cX0_settle 45 = .ok (.iconst 1, 1) := by decide +kernel
theorem dX0_settle_46 : decode cX0_settle 46 = .ok (.ireturn, 1) := by decide +kernel
theorem dX0_settle_47 : decode cX0_settle 47 = .ok (.iinc 3 1, 3) := by decide +kernel
theorem dX0_settle_50 : decode cX0_settle 50 = .ok (.goto (-28), 3) := by decide +kernel
theorem dX0_settle_53 : decode cX0_settle 53 = .ok (.iconst 0, 1) := by decide +kernel
theorem dX0_settle_54 : decode cX0_settle 54 = .ok (.ireturn, 1) := by decide +kernel
set_option maxRecDepth 20000 in
theorem ggX0_hashKeys_X2_restart : GoodIn wsX0_hashKeys wsX2_restart := goodIn_r _ [11, 12, 13, 14, 15, 16, 17, 18, 19, 20, 21, 22, 23, 74, 75, 76, 77, 78, 79] (by decide +kernel) (by decide +kernel)
set_option maxRecDepth 20000 in
theorem gX0_hashKeys_X2_restart_n68 : GoodIn wsX0_hashKeys (wsX2_restart) := ggX0_hashKeys_X2_restart
set_option maxRecDepth 20000 in
theorem ggX0_hashKeys_X4_at : GoodIn wsX0_hashKeys wsX4_at := goodIn_r _ [27, 28, 29, 16, 30, 31, 19, 80, 81, 79] (by decide +kernel) (by decide +kernel)
set_option maxRecDepth 20000 in
theorem gX0_hashKeys_X4_at_n71 : GoodIn wsX0_hashKeys (wsX4_at) := ggX0_hashKeys_X4_at
set_option maxRecDepth 20000 in
theorem ggX0_hashKeys_X0_bucketOf : GoodIn wsX0_hashKeys wsX0_bucketOf := goodIn_r _ [36, 37, 6, 3, 38, 39, 40, 41, 42, 43, 44, 45, 46, 47, 48, 65, 66, 67, 68, 69, 70, 71, 72, 73] (by decide +kernel) (by decide +kernel)
set_option maxRecDepth 20000 in
theorem gX0_hashKeys_X0_bucketOf : GoodIn wsX0_hashKeys (wsV RX0 75 RX0 yX0_bucketOf wsX0_bucketOf) := goodIn_app (goodIn_of _ (by decide +kernel)) ggX0_hashKeys_X0_bucketOf
set_option maxRecDepth 20000 in
theorem ggX0_hashKeys_X2_assign : GoodIn wsX0_hashKeys wsX2_assign := goodIn_r _ [51, 52, 14, 53, 16, 54, 55, 19, 29, 30, 31, 74, 75, 76, 77, 78, 79] (by decide +kernel) (by decide +kernel)
set_option maxRecDepth 20000 in
theorem gX0_hashKeys_X2_assign_n78 : GoodIn wsX0_hashKeys (wsX2_assign) := ggX0_hashKeys_X2_assign
set_option maxRecDepth 20000 in
theorem ggX0_hashKeys_X3_of : GoodIn wsX0_hashKeys wsX3_of := goodIn_r _ [41, 42, 43, 44, 45] (by decide +kernel) (by decide +kernel)
set_option maxRecDepth 20000 in
theorem gX0_hashKeys_X3_of_n87 : GoodIn wsX0_hashKeys (wsX3_of) := ggX0_hashKeys_X3_of
set_option maxRecDepth 20000 in
theorem ggX0_hashKeys_X6_set : GoodIn wsX0_hashKeys wsX6_set := goodIn_r _ [55, 19, 79] (by decide +kernel) (by decide +kernel)
set_option maxRecDepth 20000 in
theorem gX0_hashKeys_X6_set_n90 : GoodIn wsX0_hashKeys (wsX6_set) := ggX0_hashKeys_X6_set
set_option maxRecDepth 20000 in
theorem ggX0_hashKeys_X0_stepOf : GoodIn wsX0_hashKeys wsX0_stepOf := goodIn_r _ [59, 2, 60, 6, 38, 39, 40, 41, 42, 43, 44, 45, 46, 47, 48, 65, 66, 67, 68, 69, 70, 71, 72, 73] (by decide +kernel) (by decide +kernel)
set_option maxRecDepth 20000 in
theorem gX0_hashKeys_X0_stepOf : GoodIn wsX0_hashKeys (wsV RX0 93 RX0 yX0_stepOf wsX0_stepOf) := goodIn_app (goodIn_of _ (by decide +kernel)) ggX0_hashKeys_X0_stepOf
set_option maxRecDepth 20000 in
theorem ggX0_hashKeys_X2_arrange : GoodIn wsX0_hashKeys wsX2_arrange := goodIn_r _ [63, 13, 14, 12, 52, 64, 29, 16, 30, 31, 19, 53, 54, 55, 74, 75, 76, 77, 78, 79] (by decide +kernel) (by decide +kernel)
set_option maxRecDepth 20000 in
theorem gX0_hashKeys_X2_arrange_n96 : GoodIn wsX0_hashKeys (wsX2_arrange) := ggX0_hashKeys_X2_arrange
theorem dX0_hashKeys_0 : decode cX0_hashKeys 0 = .ok (.aload_n 0, 1) := by decide +kernel
theorem dX0_hashKeys_1 : decode cX0_hashKeys 1 = .ok (.getfield 14, 3) := by decide +kernel
theorem dX0_hashKeys_4 : decode cX0_hashKeys 4 = .ok (.aload_n 0, 1) := by decide +kernel
theorem dX0_hashKeys_5 : decode cX0_hashKeys 5 = .ok (.getfield 47, 3) := by decide +kernel
theorem dX0_hashKeys_8 : decode cX0_hashKeys 8 = .ok (.aload_n 0, 1) := by decide +kernel
theorem dX0_hashKeys_9 : decode cX0_hashKeys 9 = .ok (.getfield 54, 3) := by decide +kernel
theorem dX0_hashKeys_12 : decode cX0_hashKeys 12 = .ok (.invokevirtual 68, 3) := by decide +kernel
theorem dX0_hashKeys_15 : decode cX0_hashKeys 15 = .ok (.iconst 0, 1) := by decide +kernel
theorem dX0_hashKeys_16 : decode cX0_hashKeys 16 = .ok (.istore_n 2, 1) := by decide +kernel
theorem dX0_hashKeys_17 : decode cX0_hashKeys 17 = .ok (.iload_n 2, 1) := by decide +kernel
theorem dX0_hashKeys_18 : decode cX0_hashKeys 18 = .ok (.aload_n 0, 1) := by decide +kernel
theorem dX0_hashKeys_19 : decode cX0_hashKeys 19 = .ok (.getfield 47, 3) := by decide +kernel
theorem dX0_hashKeys_22 : decode cX0_hashKeys 22 = .ok (.if_icmp .ge 60, 3) := by decide +kernel
theorem dX0_hashKeys_25 : decode cX0_hashKeys 25 = .ok (.aload_n 1, 1) := by decide +kernel
theorem dX0_hashKeys_26 : decode cX0_hashKeys 26 = .ok (.iload_n 2, 1) := by decide +kernel
theorem dX0_hashKeys_27 : decode cX0_hashKeys 27 = .ok (.invokevirtual 71, 3) := by decide +kernel
theorem dX0_hashKeys_30 : decode cX0_hashKeys 30 = .ok (.istore_n 3, 1) := by decide +kernel
theorem dX0_hashKeys_31 : decode cX0_hashKeys 31 = .ok (.aload_n 0, 1) := by decide +kernel
theorem dX0_hashKeys_32 : decode cX0_hashKeys 32 = .ok (.getfield 14, 3) := by decide +kernel
theorem dX0_hashKeys_35 : decode cX0_hashKeys 35 = .ok (.iload_n 2, 1) := by decide +kernel
theorem dX0_hashKeys_36 : decode cX0_hashKeys 36 = .ok (.aload_n 0, 1) := by decide +kernel
theorem dX0_hashKeys_37 : decode cX0_hashKeys 37 = .ok (.iload_n 3, 1) := by decide +kernel
theorem dX0_hashKeys_38 : decode cX0_hashKeys 38 = .ok (.invokevirtual 75, 3) := by decide +kernel
theorem dX0_hashKeys_41 : decode cX0_hashKeys 41 = .ok (.invokevirtual 78, 3) := by decide +kernel
theorem dX0_hashKeys_44 : decode cX0_hashKeys 44 = .ok (.aload_n 0, 1) := by decide +kernel
theorem dX0_hashKeys_45 : decode cX0_hashKeys 45 = .ok (.getfield 25, 3) := by decide +kernel
theorem dX0_hashKeys_48 : decode cX0_hashKeys 48 = .ok (.iload_n 2, 1) := by decide +kernel
theorem dX0_hashKeys_49 : decode cX0_hashKeys 49 = .ok (.getstatic 81, 3) := by decide +kernel
theorem dX0_hashKeys_52 : decode cX0_hashKeys 52 = .ok (.iload_n 3, 1) := by decide +kernel
theorem dX0_hashKeys_53 : decode cX0_hashKeys 53 = .ok (.aload_n 0, 1) := by decide +kernel
theorem dX0_hashKeys_54 : decode cX0_hashKeys 54 = .ok (.getfield 57, 3) := by decide +kernel
theorem dX0_hashKeys_57 : decode cX0_hashKeys 57 = .ok (.invokevirtual 87, 3) := by decide +kernel
theorem dX0_hashKeys_60 : decode cX0_hashKeys 60 = .ok (.invokevirtual 90, 3) := by decide +kernel
theorem dX0_hashKeys_63 : decode cX0_hashKeys 63 = .ok (.aload_n 0, 1) := by decide +kernel
theorem dX0_hashKeys_64 : decode cX0_hashKeys 64 = .ok (.getfield 29, 3) := by decide +kernel
theorem dX0_hashKeys_67 : decode cX0_hashKeys 67 = .ok (.iload_n 2, 1) := by decide +kernel
theorem dX0_hashKeys_68 : decode cX0_hashKeys 68 = .ok (.aload_n 0, 1) := by decide +kernel
theorem dX0_hashKeys_69 : decode cX0_hashKeys 69 = .ok (.iload_n 3, 1) := by decide +kernel
theorem dX0_hashKeys_70 : decode cX0_hashKeys 70 = .ok (.invokevirtual 93, 3) := by decide +kernel
theorem dX0_hashKeys_73 : decode cX0_hashKeys 73 = .ok (.invokevirtual 90, 3) := by decide +kernel
theorem dX0_hashKeys_76 : decode cX0_hashKeys 76 = .ok (.iinc 2 1, 3) := by decide +kernel
theorem dX0_hashKeys_79 : decode cX0_hashKeys 79 = .ok (.goto (-62), 3) := by decide +kernel
theorem dX0_hashKeys_82 : decode cX0_hashKeys 82 = .ok (.aload_n 0, 1) := by decide +kernel
theorem dX0_hashKeys_83 : decode cX0_hashKeys 83 = .ok (.getfield 14, 3) := by decide +kernel
theorem dX0_hashKeys_86 : decode cX0_hashKeys 86 = .ok (.invokevirtual 96, 3) := by decide +kernel
theorem dX0_hashKeys_89 : decode cX0_hashKeys 89 = .ok (.return_, 1) := by decide +kernel
set_option maxRecDepth 20000 in
theorem ggX0_displaceAll_X6_fill : GoodIn wsX0_displaceAll wsX6_fill := goodIn_r _ [8, 9, 10, 11, 12, 13, 81] (by decide +kernel) (by decide +kernel)
set_option maxRecDepth 20000 in
theorem gX0_displaceAll_X6_fill_n99 : GoodIn wsX0_displaceAll (wsX6_fill) := ggX0_displaceAll_X6_fill
set_option maxRecDepth 20000 in
theorem ggX0_displaceAll_X0_largestBucket : GoodIn wsX0_displaceAll wsX0_largestBucket := goodIn_r _ [18, 3, 4, 19, 20, 21, 22, 23, 24, 25, 26, 27, 28, 29, 30, 31, 32, 6, 33, 34, 9, 35, 36, 37, 38, 72, 73, 74, 75, 76, 77, 78, 79, 80, 82, 83, 84, 85, 86, 81] (by decide +kernel) (by decide +kernel)
set_option maxRecDepth 20000 in
theorem gX0_displaceAll_X0_largestBucket : GoodIn wsX0_displaceAll (wsV RX0 102 RX0 yX0_largestBucket wsX0_largestBucket) := goodIn_app (goodIn_of _ (by decide +kernel)) ggX0_displaceAll_X0_largestBucket
set_option maxRecDepth 20000 in
theorem ggX0_displaceAll_X2_sizeOf : GoodIn wsX0_displaceAll wsX2_sizeOf := goodIn_r _ [26, 27, 28, 29, 24, 30, 31, 32, 6, 33, 34, 9, 35, 36, 37, 38, 82, 83, 84, 85, 86, 81] (by decide +kernel) (by decide +kernel)
set_option maxRecDepth 20000 in
theorem gX0_displaceAll_X2_sizeOf_n106 : GoodIn wsX0_displaceAll (wsX2_sizeOf) := ggX0_displaceAll_X2_sizeOf
set_option maxRecDepth 20000 in
theorem ggX0_displaceAll_X0_displace : GoodIn wsX0_displaceAll wsX0_displace := goodIn_r _ [42, 43, 44, 45, 21, 46, 1, 47, 48, 49, 17, 50, 4, 2, 51, 36, 24, 37, 38, 31, 32, 6, 33, 34, 9, 28, 29, 30, 52, 53, 54, 55, 56, 57, 58, 59, 60, 61, 62, 63, 64, 65, 66, 67, 68, 69, 70, 71, 72, 73, 74, 75, 76, 77, 78, 79, 80, 82, 83, 84, 85, 86, 81] (by decide +kernel) (by decide +kernel)
set_option maxRecDepth 20000 in
theorem gX0_displaceAll_X0_displace : GoodIn wsX0_displaceAll (wsV RX0 109 RX0 yX0_displace wsX0_displace) := goodIn_app (goodIn_of _ (by decide +kernel)) ggX0_displaceAll_X0_displace
theorem dX0_displaceAll_0 : decode cX0_displaceAll 0 = .ok (.aload_n 0, 1) := by decide +kernel
theorem dX0_displaceAll_1 : decode cX0_displaceAll 1 = .ok (.getfield 35, 3) := by decide +kernel
theorem dX0_displaceAll_4 : decode cX0_displaceAll 4 = .ok (.iconst 0, 1) := by decide +kernel
theorem dX0_displaceAll_5 : decode cX0_displaceAll 5 = .ok (.invokevirtual 99, 3) := by decide +kernel
theorem dX0_displaceAll_8 : decode cX0_displaceAll 8 = .ok (.aload_n 0, 1) := by decide +kernel
theorem dX0_displaceAll_9 : decode cX0_displaceAll 9 = .ok (.getfield 38, 3) := by decide +kernel
theorem dX0_displaceAll_12 : decode cX0_displaceAll 12 = .ok (.iconst (-1), 1) := by decide +kernel
theorem dX0_displaceAll_13 : decode cX0_displaceAll 13 = .ok (.invokevirtual 99, 3) := by decide +kernel
theorem dX0_displaceAll_16 : decode cX0_displaceAll 16 = .ok (.aload_n 0, 1) := by decide +kernel
theorem dX0_displaceAll_17 : decode cX0_displaceAll 17 = .ok (.invokevirtual 102, 3) := by decide +kernel
theorem dX0_displaceAll_20 : decode cX0_displaceAll 20 = .ok (.istore_n 1, 1) := by decide +kernel
theorem dX0_displaceAll_21 : decode cX0_displaceAll 21 = .ok (.iload_n 1, 1) := by decide +kernel
theorem dX0_displaceAll_22 : decode cX0_displaceAll 22 = .ok (.ifCond .le 47, 3) := by decide +kernel
theorem dX0_displaceAll_25 : decode cX0_displaceAll 25 = .ok (.iconst 0, 1) := by decide +kernel
theorem dX0_displaceAll_26 : decode cX0_displaceAll 26 = .ok (.istore_n 2, 1) := by decide +kernel
theorem dX0_displaceAll_27 : decode cX0_displaceAll 27 = .ok (.iload_n 2, 1) := by decide +kernel
theorem dX0_displaceAll_28 : decode cX0_displaceAll 28 = .ok (.aload_n 0, 1) := by decide +kernel
theorem dX0_displaceAll_29 : decode cX0_displaceAll 29 = .ok (.getfield 54, 3) := by decide +kernel
theorem dX0_displaceAll_32 : decode cX0_displaceAll 32 = .ok (.if_icmp .ge 31, 3) := by decide +kernel
theorem dX0_displaceAll_35 : decode cX0_displaceAll 35 = .ok (.aload_n 0, 1) := by decide +kernel
theorem dX0_displaceAll_36 : decode cX0_displaceAll 36 = .ok (.getfield 14, 3) := by decide +kernel
theorem dX0_displaceAll_39 : decode cX0_displaceAll 39 = .ok (.iload_n 2, 1) := by decide +kernel
theorem dX0_displaceAll_40 : decode cX0_displaceAll 40 = .ok (.invokevirtual 106, 3) := by decide +kernel
theorem dX0_displaceAll_43 : decode cX0_displaceAll 43 = .ok (.iload_n 1, 1) := by decide +kernel
theorem dX0_displaceAll_44 : decode cX0_displaceAll 44 = .ok (.if_icmp .ne 13, 3) := by decide +kernel
theorem dX0_displaceAll_47 : decode cX0_displaceAll 47 = .ok (.aload_n 0, 1) := by decide +kernel
theorem dX0_displaceAll_48 : decode cX0_displaceAll 48 = .ok (.iload_n 2, 1) := by decide +kernel
theorem dX0_displaceAll_49 : decode cX0_displaceAll 49 = .ok (.invokevirtual 109, 3) := by decide +kernel
theorem dX0_displaceAll_52 : decode cX0_displaceAll 52 = .ok (.ifCond .ne 5, 3) := by decide +kernel
theorem dX0_displaceAll_55 : decode cX0_displaceAll 55 = .ok (.iconst 0, 1) := by decide +kernel
theorem dX0_displaceAll_56 : decode cX0_displaceAll 56 = .ok (.ireturn, 1) := by decide +kernel
theorem dX0_displaceAll_57 : decode cX0_displaceAll 57 = .ok (.iinc 2 1, 3) := by decide +kernel
theorem dX0_displaceAll_60 : decode cX0_displaceAll 60 = .ok (.goto (-33), 3) := by decide +kernel
theorem dX0_displaceAll_63 : decode cX0_displaceAll 63 = .ok (.iinc 1 (-1), 3) := by decide +kernel
theorem dX0_displaceAll_66 : decode cX0_displaceAll 66 = .ok (.goto (-45), 3) := by decide +kernel
theorem dX0_displaceAll_69 : decode cX0_displaceAll 69 = .ok (.iconst 1, 1) := by decide +kernel
theorem dX0_displaceAll_70 : decode cX0_displaceAll 70 = .ok (.ireturn, 1) := by decide +kernel
set_option maxRecDepth 20000 in
theorem ggX0_largestBucket_X2_sizeOf : GoodIn wsX0_largestBucket wsX2_sizeOf := goodIn_r _ [10, 11, 12, 13, 8, 14, 15, 16, 17, 18, 19, 20, 21, 22, 23, 24, 34, 35, 36, 37, 38, 39] (by decide +kernel) (by decide +kernel)
set_option maxRecDepth 20000 in
theorem gX0_largestBucket_X2_sizeOf_n106 : GoodIn wsX0_largestBucket (wsX2_sizeOf) := ggX0_largestBucket_X2_sizeOf
theorem dX0_largestBucket_0 : decode cX0_largestBucket 0 = .ok (.iconst 0, 1) := by decide +kernel
theorem dX0_largestBucket_1 : decode cX0_largestBucket 1 = .ok (.istore_n 1, 1) := by decide +kernel
theorem dX0_largestBucket_2 : decode cX0_largestBucket 2 = .ok (.iconst 0, 1) := by decide +kernel
theorem dX0_largestBucket_3 : decode cX0_largestBucket 3 = .ok (.istore_n 2, 1) := by decide +kernel
theorem dX0_largestBucket_4 : decode cX0_largestBucket 4 = .ok (.iload_n 2, 1) := by decide +kernel
theorem dX0_largestBucket_5 : decode cX0_largestBucket 5 = .ok (.aload_n 0, 1) := by decide +kernel
theorem dX0_largestBucket_6 : decode cX0_largestBucket 6 = .ok (.getfield 54, 3) := by decide +kernel
theorem dX0_largestBucket_9 : decode cX0_largestBucket 9 = .ok (.if_icmp .ge 22, 3) := by decide +kernel
theorem dX0_largestBucket_12 : decode cX0_largestBucket 12 = .ok (.iload_n 1, 1) := by decide +kernel
theorem dX0_largestBucket_13 : decode cX0_largestBucket 13 = .ok (.aload_n 0, 1) := by decide +kernel
theorem dX0_largestBucket_14 : decode cX0_largestBucket 14 = .ok (.getfield 14, 3) := by decide +kernel
theorem dX0_largestBucket_17 : decode cX0_largestBucket 17 = .ok (.iload_n 2, 1) := by decide +kernel
theorem dX0_largestBucket_18 : decode cX0_largestBucket 18 = .ok (.invokevirtual 106, 3) := by decide +kernel
theorem dX0_largestBucket_21 : decode cX0_largestBucket 21 = .ok (.invokestatic 113, 3) := by decide +kernel
theorem dX0_largestBucket_24 : decode cX0_largestBucket 24 = .ok (.istore_n 1, 1) := by decide +kernel
theorem dX0_largestBucket_25 : decode cX0_largestBucket 25 = .ok (.iinc 2 1, 3) := by decide +kernel
theorem dX0_largestBucket_28 : decode cX0_largestBucket 28 = .ok (.goto (-24), 3) := by decide +kernel
theorem dX0_largestBucket_31 : decode cX0_largestBucket 31 = .ok (.iload_n 1, 1) := by decide +kernel
theorem dX0_largestBucket_32 : decode cX0_largestBucket 32 = .ok (.ireturn, 1) := by decide +kernel
set_option maxRecDepth 20000 in
theorem ggX0_displace_X0_place : GoodIn wsX0_displace wsX0_place := goodIn_r _ [11, 12, 13, 14, 15, 16, 17, 18, 19, 20, 21, 22, 23, 24, 25, 26, 27, 28, 29, 30, 31, 32, 33, 34, 10, 35, 36, 37, 1, 38, 39, 40, 41, 42, 43, 44, 45, 46, 47, 48, 49, 50, 51, 52, 53, 54, 55, 56, 57, 58, 59, 60, 61, 62] (by decide +kernel) (by decide +kernel)
set_option maxRecDepth 20000 in
theorem gX0_displace_X0_place : GoodIn wsX0_displace (wsV RX0 121 RX0 yX0_place wsX0_place) := goodIn_app (goodIn_of _ (by decide +kernel)) ggX0_displace_X0_place
set_option maxRecDepth 20000 in
theorem ggX0_displace_X6_set : GoodIn wsX0_displace wsX6_set := goodIn_r _ [47, 24, 62] (by decide +kernel) (by decide +kernel)
set_option maxRecDepth 20000 in
theorem gX0_displace_X6_set_n90 : GoodIn wsX0_displace (wsX6_set) := ggX0_displace_X6_set
theorem dX0_displace_0 : decode cX0_displace 0 = .ok (.sipush 512, 3) := by decide +kernel
theorem dX0_displace_3 : decode cX0_displace 3 = .ok (.aload_n 0, 1) := by decide +kernel
theorem dX0_displace_4 : decode cX0_displace 4 = .ok (.getfield 47, 3) := by decide +kernel
theorem dX0_displace_7 : decode cX0_displace 7 = .ok (.invokestatic 118, 3) := by decide +kernel
theorem dX0_displace_10 : decode cX0_displace 10 = .ok (.istore_n 2, 1) := by decide +kernel
theorem dX0_displace_11 : decode cX0_displace 11 = .ok (.iconst 0, 1) := by decide +kernel
theorem dX0_displace_12 : decode cX0_displace 12 = .ok (.istore_n 3, 1) := by decide +kernel
theorem dX0_displace_13 : decode cX0_displace 13 = .ok (.iload_n 3, 1) := by decide +kernel
theorem dX0_displace_14 : decode cX0_displace 14 = .ok (.iload_n 2, 1) := by decide +kernel
theorem dX0_displace_15 : decode cX0_displace 15 = .ok (.if_icmp .ge 29, 3) := by decide +kernel
theorem dX0_displace_18 : decode cX0_displace 18 = .ok (.aload_n 0, 1) := by decide +kernel
theorem dX0_displace_19 : decode cX0_displace 19 = .ok (.iload_n 1, 1) := by decide +kernel
theorem dX0_displace_20 : decode cX0_displace 20 = .ok (.iload_n 3, 1) := by decide +kernel
theorem dX0_displace_21 : decode cX0_displace 21 = .ok (.invokevirtual 121, 3) := by decide +kernel
theorem dX0_displace_24 : decode cX0_displace 24 = .ok (.ifCond .eq 14, 3) := by decide +kernel
theorem dX0_displace_27 : decode cX0_displace 27 = .ok (.aload_n 0, 1) := by decide +kernel
theorem dX0_displace_28 : decode cX0_displace 28 = .ok (.getfield 35, 3) := by decide +kernel
theorem dX0_displace_31 : decode cX0_displace 31 = .ok (.iload_n 1, 1) := by decide +kernel
theorem dX0_displace_32 : decode cX0_displace 32 = .ok (.iload_n 3, 1) := by decide +kernel
theorem dX0_displace_33 : decode cX0_displace 33 = .ok (.invokevirtual 90, 3) := by decide +kernel
theorem dX0_displace_36 : decode cX0_displace 36 = .ok (.iconst 1, 1) := by decide +kernel
theorem dX0_displace_37 : decode cX0_displace 37 = .ok (.ireturn, 1) := by decide +kernel
theorem dX0_displace_38 : decode cX0_displace 38 = .ok (.iinc 3 1, 3) := by decide +kernel
theorem dX0_displace_41 : decode cX0_displace 41 = .ok (.goto (-28), 3) := by decide +kernel
theorem dX0_displace_44 : decode cX0_displace 44 = .ok (.iconst 0, 1) := by decide +kernel
theorem dX0_displace_45 : decode cX0_displace 45 = .ok (.ireturn, 1) := by decide +kernel
set_option maxRecDepth 20000 in
theorem ggX0_place_X2_beginOf : GoodIn wsX0_place wsX2_beginOf := goodIn_r _ [7, 8, 9, 10, 11, 12, 13, 48, 49, 50, 51, 52, 53] (by decide +kernel) (by decide +kernel)
set_option maxRecDepth 20000 in
theorem gX0_place_X2_beginOf_n125 : GoodIn wsX0_place (wsX2_beginOf) := ggX0_place_X2_beginOf
set_option maxRecDepth 20000 in
theorem ggX0_place_X2_endOf : GoodIn wsX0_place wsX2_endOf := goodIn_r _ [16, 8, 9, 10, 11, 12, 13, 48, 49, 50, 51, 52, 53] (by decide +kernel) (by decide +kernel)
set_option maxRecDepth 20000 in
theorem gX0_place_X2_endOf_n128 : GoodIn wsX0_place (wsX2_endOf) := ggX0_place_X2_endOf
set_option maxRecDepth 20000 in
theorem ggX0_place_X2_memberAt : GoodIn wsX0_place wsX2_memberAt := goodIn_r _ [19, 20, 9, 10, 11, 12, 13, 48, 49, 50, 51, 52, 53] (by decide +kernel) (by decide +kernel)
set_option maxRecDepth 20000 in
theorem gX0_place_X2_memberAt_n131 : GoodIn wsX0_place (wsX2_memberAt) := ggX0_place_X2_memberAt
set_option maxRecDepth 20000 in
theorem ggX0_place_X0_numberWith : GoodIn wsX0_place wsX0_numberWith := goodIn_r _ [25, 26, 27, 28, 9, 10, 11, 12, 13, 29, 30, 31, 39, 40, 41, 42, 43, 44, 45, 46, 47, 53] (by decide +kernel) (by decide +kernel)
set_option maxRecDepth 20000 in
theorem gX0_place_X0_numberWith : GoodIn wsX0_place (wsV RX0 134 RX0 yX0_numberWith wsX0_numberWith) := goodIn_app (goodIn_of _ (by decide +kernel)) ggX0_place_X0_numberWith
set_option maxRecDepth 20000 in
theorem ggX0_place_X6_get : GoodIn wsX0_place wsX6_get := goodIn_r _ [12, 13, 53] (by decide +kernel) (by decide +kernel)
set_option maxRecDepth 20000 in
theorem gX0_place_X6_get_n137 : GoodIn wsX0_place (wsX6_get) := ggX0_place_X6_get
set_option maxRecDepth 20000 in
theorem ggX0_place_X0_takeBack : GoodIn wsX0_place wsX0_takeBack := goodIn_r _ [35, 1, 2, 3, 17, 5, 18, 19, 20, 9, 10, 11, 12, 13, 36, 37, 38, 39, 40, 41, 42, 43, 44, 45, 46, 47, 48, 49, 50, 51, 52, 53] (by decide +kernel) (by decide +kernel)
set_option maxRecDepth 20000 in
theorem gX0_place_X0_takeBack : GoodIn wsX0_place (wsV RX0 140 RX0 yX0_takeBack wsX0_takeBack) := goodIn_app (goodIn_of _ (by decide +kernel)) ggX0_place_X0_takeBack
set_option maxRecDepth 20000 in
theorem ggX0_place_X6_set : GoodIn wsX0_place wsX6_set := goodIn_r _ [38, 13, 53] (by decide +kernel) (by decide +kernel)
set_option maxRecDepth 20000 in
theorem gX0_place_X6_set_n90 : GoodIn wsX0_place (wsX6_set) := ggX0_place_X6_set
theorem dX0_place_0 : decode cX0_place 0 = .ok (.aload_n 0, 1) := by decide +kernel
theorem dX0_place_1 : decode cX0_place 1 = .ok (.getfield 14, 3) := by decide +kernel
theorem dX0_place_4 : decode cX0_place 4 = .ok (.iload_n 1, 1) := by decide +kernel
theorem dX0_place_5 : decode cX0_place 5 = .ok (.invokevirtual 125, 3) := by decide +kernel
theorem dX0_place_8 : decode cX0_place 8 = .ok (.istore_n 3, 1) := by decide +kernel
theorem dX0_place_9 : decode cX0_place 9 = .ok (.aload_n 0, 1) := by decide +kernel
theorem dX0_place_10 : decode cX0_place 10 = .ok (.getfield 14, 3) := by decide +kernel
theorem dX0_place_13 : decode cX0_place 13 = .ok (.iload_n 1, 1) := by decide +kernel
theorem dX0_place_14 : decode cX0_place 14 = .ok (.invokevirtual 128, 3) := by decide +kernel
theorem dX0_place_17 : decode cX0_place 17 = .ok (.istore 4, 2) := by decide +kernel
theorem dX0_place_19 : decode cX0_place 19 = .ok (.iload_n 3, 1) := by decide +kernel
theorem dX0_place_20 : decode cX0_place 20 = .ok (.istore 5, 2) := by decide +kernel
theorem dX0_place_22 : decode cX0_place 22 = .ok (.iload 5, 2) := by decide +kernel
theorem dX0_place_24 : decode cX0_place 24 = .ok (.iload 4, 2) := by decide +kernel
theorem dX0_place_26 : decode cX0_place 26 = .ok (.if_icmp .ge 73, 3) := by decide +kernel
theorem dX0_place_29 : decode cX0_place 29 = .ok (.aload_n 0, 1) := by decide +kernel
theorem dX0_place_30 : decode cX0_place 30 = .ok (.getfield 14, 3) := by decide +kernel
theorem dX0_place_33 : decode cX0_place 33 = .ok (.iload 5, 2) := by decide +kernel
theorem dX0_place_35 : decode cX0_place 35 = .ok (.invokevirtual 131, 3) := by decide +kernel
theorem dX0_place_38 : decode cX0_place 38 = .ok (.istore 6, 2) := by decide +kernel
theorem dX0_place_40 : decode cX0_place 40 = .ok (.aload_n 0, 1) := by decide +kernel
theorem dX0_place_41 : decode cX0_place 41 = .ok (.iload 6, 2) := by decide +kernel
theorem dX0_place_43 : decode cX0_place 43 = .ok (.iload_n 2, 1) := by decide +kernel
theorem dX0_place_44 : decode cX0_place 44 = .ok (.invokevirtual 134, 3) := by decide +kernel
theorem dX0_place_47 : decode cX0_place 47 = .ok (.istore 7, 2) := by decide +kernel
theorem dX0_place_49 : decode cX0_place 49 = .ok (.aload_n 0, 1) := by decide +kernel
theorem dX0_place_50 : decode cX0_place 50 = .ok (.getfield 38, 3) := by decide +kernel
theorem dX0_place_53 : decode cX0_place 53 = .ok (.iload 7, 2) := by decide +kernel
theorem dX0_place_55 : decode cX0_place 55 = .ok (.invokevirtual 137, 3) := by decide +kernel
theorem dX0_place_58 : decode cX0_place 58 = .ok (.iconst (-1), 1) := by decide +kernel
theorem dX0_place_59 : decode cX0_place 59 = .ok (.if_icmp .eq 12, 3) := by decide +kernel
theorem dX0_place_62 : decode cX0_place 62 = .ok (.aload_n 0, 1) := by decide +kernel
theorem dX0_place_63 : decode cX0_place 63 = .ok (.iload_n 3, 1) := by decide +kernel
theorem dX0_place_64 : decode cX0_place 64 = .ok (.iload 5, 2) := by decide +kernel
theorem dX0_place_66 : decode cX0_place 66 = .ok (.invokevirtual 140, 3) := by decide +kernel
theorem dX0_place_69 : decode cX0_place 69 = .ok (.iconst 0, 1) := by decide +kernel
theorem dX0_place_70 : decode cX0_place 70 = .ok (.ireturn, 1) := by decide +kernel
theorem dX0_place_71 : decode cX0_place 71 = .ok (.aload_n 0, 1) := by decide +kernel
theorem dX0_place_72 : decode cX0_place 72 = .ok (.getfield 38, 3) := by decide +kernel
theorem dX0_place_75 : decode cX0_place 75 = .ok (.iload 7, 2) := by decide +kernel
theorem dX0_place_77 : decode cX0_place 77 = .ok (.iload 6, 2) := by decide +kernel
theorem dX0_place_79 : decode cX0_place 79 = .ok (.invokevirtual 90, 3) := by decide +kernel
theorem dX0_place_82 : decode cX0_place 82 = .ok (.aload_n 0, 1) := by decide +kernel
theorem dX0_place_83 : decode cX0_place 83 = .ok (.getfield 32, 3) := by decide +kernel
theorem dX0_place_86 : decode cX0_place 86 = .ok (.iload 6, 2) := by decide +kernel
theorem dX0_place_88 : decode cX0_place 88 = .ok (.iload 7, 2) := by decide +kernel
theorem dX0_place_90 : decode cX0_place 90 = .ok (.invokevirtual 90, 3) := by decide +kernel
theorem dX0_place_93 : decode cX0_place 93 = .ok (.iinc 5 1, 3) := by decide +kernel
theorem dX0_place_96 : decode cX0_place 96 = .ok (.goto (-74), 3) := by decide +kernel
theorem dX0_place_99 : decode cX0_place 99 = .ok (.iconst 1, 1) := by decide +kernel
theorem dX0_place_100 : decode cX0_place 100 = .ok (.ireturn, 1) := by decide +kernel
set_option maxRecDepth 20000 in
theorem ggX0_takeBack_X2_memberAt : GoodIn wsX0_takeBack wsX2_memberAt := goodIn_r _ [7, 8, 9, 10, 11, 12, 13, 26, 27, 28, 29, 30, 31] (by decide +kernel) (by decide +kernel)
set_option maxRecDepth 20000 in
theorem gX0_takeBack_X2_memberAt_n131 : GoodIn wsX0_takeBack (wsX2_memberAt) := ggX0_takeBack_X2_memberAt
set_option maxRecDepth 20000 in
theorem ggX0_takeBack_X6_get : GoodIn wsX0_takeBack wsX6_get := goodIn_r _ [12, 13, 31] (by decide +kernel) (by decide +kernel)
set_option maxRecDepth 20000 in
theorem gX0_takeBack_X6_get_n137 : GoodIn wsX0_takeBack (wsX6_get) := ggX0_takeBack_X6_get
set_option maxRecDepth 20000 in
theorem ggX0_takeBack_X6_set : GoodIn wsX0_takeBack wsX6_set := goodIn_r _ [16, 13, 31] (by decide +kernel) (by decide +kernel)
set_option maxRecDepth 20000 in
theorem gX0_takeBack_X6_set_n90 : GoodIn wsX0_takeBack (wsX6_set) := ggX0_takeBack_X6_set
theorem dX0_takeBack_0 : decode cX0_takeBack 0 = .ok (.iload_n 1, 1) := by decide +kernel
theorem dX0_takeBack_1 : decode cX0_takeBack 1 = .ok (.istore_n 3, 1) := by decide +kernel
theorem dX0_takeBack_2 : decode cX0_takeBack 2 = .ok (.iload_n 3, 1) := by decide +kernel
theorem dX0_takeBack_3 : decode cX0_takeBack 3 = .ok (.iload_n 2, 1) := by decide +kernel
theorem dX0_takeBack_4 : decode cX0_takeBack 4 = .ok (.if_icmp .ge 36, 3) := by decide +kernel
theorem dX0_takeBack_7 : decode cX0_takeBack 7 = .ok (.aload_n 0, 1) := by decide +kernel
theorem dX0_takeBack_8 : decode cX0_takeBack 8 = .ok (.getfield 14, 3) := by decide +kernel
theorem dX0_takeBack_11 : decode cX0_takeBack 11 = .ok (.iload_n 3, 1) := by decide +kernel
theorem dX0_takeBack_12 : decode cX0_takeBack 12 = .ok (.invokevirtual 131, 3) := by decide +kernel
theorem dX0_takeBack_15 : decode cX0_takeBack 15 = .ok (.istore 4, 2) := by decide +kernel
theorem dX0_takeBack_17 : decode cX0_takeBack 17 = .ok (.aload_n 0, 1) := by decide +kernel
theorem dX0_takeBack_18 : decode cX0_takeBack 18 = .ok (.getfield 38, 3) := by decide +kernel
theorem dX0_takeBack_21 : decode cX0_takeBack 21 = .ok (.aload_n 0, 1) := by decide +kernel
theorem dX0_takeBack_22 : decode cX0_takeBack 22 = .ok (.getfield 32, 3) := by decide +kernel
theorem dX0_takeBack_25 : decode cX0_takeBack 25 = .ok (.iload 4, 2) := by decide +kernel
theorem dX0_takeBack_27 : decode cX0_takeBack 27 = .ok (.invokevirtual 137, 3) := by decide +kernel
theorem dX0_takeBack_30 : decode cX0_takeBack 30 = .ok (.iconst (-1), 1) := by decide +kernel
theorem dX0_takeBack_31 : decode cX0_takeBack 31 = .ok (.invokevirtual 90, 3) := by decide +kernel
theorem dX0_takeBack_34 : decode cX0_takeBack 34 = .ok (.iinc 3 1, 3) := by decide +kernel
theorem dX0_takeBack_37 : decode cX0_takeBack 37 = .ok (.goto (-35), 3) := by decide +kernel
theorem dX0_takeBack_40 : decode cX0_takeBack 40 = .ok (.return_, 1) := by decide +kernel
set_option maxRecDepth 20000 in
theorem ggX0_numberWith_X6_get : GoodIn wsX0_numberWith wsX6_get := goodIn_r _ [7, 8, 21] (by decide +kernel) (by decide +kernel)
set_option maxRecDepth 20000 in
theorem gX0_numberWith_X6_get_n137 : GoodIn wsX0_numberWith (wsX6_get) := ggX0_numberWith_X6_get
set_option maxRecDepth 20000 in
theorem ggX0_numberWith_X7_remainder : GoodIn wsX0_numberWith wsX7_remainder := goodIn_r _ [11] (by decide +kernel) (by decide +kernel)
set_option maxRecDepth 20000 in
theorem gX0_numberWith_X7_remainder_n143 : GoodIn wsX0_numberWith (wsX7_remainder) := ggX0_numberWith_X7_remainder
theorem dX0_numberWith_0 : decode cX0_numberWith 0 = .ok (.aload_n 0, 1) := by decide +kernel
theorem dX0_numberWith_1 : decode cX0_numberWith 1 = .ok (.getfield 25, 3) := by decide +kernel
theorem dX0_numberWith_4 : decode cX0_numberWith 4 = .ok (.iload_n 1, 1) := by decide +kernel
theorem dX0_numberWith_5 : decode cX0_numberWith 5 = .ok (.invokevirtual 137, 3) := by decide +kernel
theorem dX0_numberWith_8 : decode cX0_numberWith 8 = .ok (.iload_n 2, 1) := by decide +kernel
theorem dX0_numberWith_9 : decode cX0_numberWith 9 = .ok (.aload_n 0, 1) := by decide +kernel
theorem dX0_numberWith_10 : decode cX0_numberWith 10 = .ok (.getfield 29, 3) := by decide +kernel
theorem dX0_numberWith_13 : decode cX0_numberWith 13 = .ok (.iload_n 1, 1) := by decide +kernel
theorem dX0_numberWith_14 : decode cX0_numberWith 14 = .ok (.invokevirtual 137, 3) := by decide +kernel
theorem dX0_numberWith_17 : decode cX0_numberWith 17 = .ok (.imul, 1) := by decide +kernel
theorem dX0_numberWith_18 : decode cX0_numberWith 18 = .ok (.iadd, 1) := by decide +kernel
theorem dX0_numberWith_19 : decode cX0_numberWith 19 = .ok (.aload_n 0, 1) := by decide +kernel
theorem dX0_numberWith_20 : decode cX0_numberWith 20 = .ok (.getfield 47, 3) := by decide +kernel
theorem dX0_numberWith_23 : decode cX0_numberWith 23 = .ok (.invokestatic 143, 3) := by decide +kernel
theorem dX0_numberWith_26 : decode cX0_numberWith 26 = .ok (.ireturn, 1) := by decide +kernel
set_option maxRecDepth 20000 in
theorem ggX0_numberOf_X0_bucketOf : GoodIn wsX0_numberOf wsX0_bucketOf := goodIn_r _ [9, 10, 3, 11, 12, 13, 14, 15, 16, 17, 18, 19, 20, 21, 22, 33, 34, 35, 36, 37, 38, 39, 40, 41] (by decide +kernel) (by decide +kernel)
set_option maxRecDepth 20000 in
theorem gX0_numberOf_X0_bucketOf : GoodIn wsX0_numberOf (wsV RX0 75 RX0 yX0_bucketOf wsX0_bucketOf) := goodIn_app (goodIn_of _ (by decide +kernel)) ggX0_numberOf_X0_bucketOf
set_option maxRecDepth 20000 in
theorem ggX0_numberOf_X6_get : GoodIn wsX0_numberOf wsX6_get := goodIn_r _ [26, 27, 42] (by decide +kernel) (by decide +kernel)
set_option maxRecDepth 20000 in
theorem gX0_numberOf_X6_get_n137 : GoodIn wsX0_numberOf (wsX6_get) := ggX0_numberOf_X6_get
set_option maxRecDepth 20000 in
theorem ggX0_numberOf_X0_stepOf : GoodIn wsX0_numberOf wsX0_stepOf := goodIn_r _ [31, 4, 32, 3, 12, 13, 14, 15, 16, 17, 18, 19, 20, 21, 22, 33, 34, 35, 36, 37, 38, 39, 40, 41] (by decide +kernel) (by decide +kernel)
set_option maxRecDepth 20000 in
theorem gX0_numberOf_X0_stepOf : GoodIn wsX0_numberOf (wsV RX0 93 RX0 yX0_stepOf wsX0_stepOf) := goodIn_app (goodIn_of _ (by decide +kernel)) ggX0_numberOf_X0_stepOf
set_option maxRecDepth 20000 in
theorem ggX0_numberOf_X3_of : GoodIn wsX0_numberOf wsX3_of := goodIn_r _ [15, 16, 17, 18, 19] (by decide +kernel) (by decide +kernel)
set_option maxRecDepth 20000 in
theorem gX0_numberOf_X3_of_n87 : GoodIn wsX0_numberOf (wsX3_of) := ggX0_numberOf_X3_of
set_option maxRecDepth 20000 in
theorem ggX0_numberOf_X7_remainder : GoodIn wsX0_numberOf wsX7_remainder := goodIn_r _ [22] (by decide +kernel) (by decide +kernel)
set_option maxRecDepth 20000 in
theorem gX0_numberOf_X7_remainder_n143 : GoodIn wsX0_numberOf (wsX7_remainder) := ggX0_numberOf_X7_remainder
theorem dX0_numberOf_0 : decode cX0_numberOf 0 = .ok (.aload_n 0, 1) := by decide +kernel
theorem dX0_numberOf_1 : decode cX0_numberOf 1 = .ok (.getfield 35, 3) := by decide +kernel
theorem dX0_numberOf_4 : decode cX0_numberOf 4 = .ok (.aload_n 0, 1) := by decide +kernel
theorem dX0_numberOf_5 : decode cX0_numberOf 5 = .ok (.iload_n 1, 1) := by decide +kernel
theorem dX0_numberOf_6 : decode cX0_numberOf 6 = .ok (.invokevirtual 75, 3) := by decide +kernel
theorem dX0_numberOf_9 : decode cX0_numberOf 9 = .ok (.invokevirtual 137, 3) := by decide +kernel
theorem dX0_numberOf_12 : decode cX0_numberOf 12 = .ok (.aload_n 0, 1) := by decide +kernel
theorem dX0_numberOf_13 : decode cX0_numberOf 13 = .ok (.iload_n 1, 1) := by decide +kernel
theorem dX0_numberOf_14 : decode cX0_numberOf 14 = .ok (.invokevirtual 93, 3) := by decide +kernel
theorem dX0_numberOf_17 : decode cX0_numberOf 17 = .ok (.imul, 1) := by decide +kernel
theorem dX0_numberOf_18 : decode cX0_numberOf 18 = .ok (.istore_n 2, 1) := by decide +kernel
theorem dX0_numberOf_19 : decode cX0_numberOf 19 = .ok (.getstatic 81, 3) := by decide +kernel
theorem dX0_numberOf_22 : decode cX0_numberOf 22 = .ok (.iload_n 1, 1) := by decide +kernel
theorem dX0_numberOf_23 : decode cX0_numberOf 23 = .ok (.aload_n 0, 1) := by decide +kernel
theorem dX0_numberOf_24 : decode cX0_numberOf 24 = .ok (.getfield 57, 3) := by decide +kernel
theorem dX0_numberOf_27 : decode cX0_numberOf 27 = .ok (.invokevirtual 87, 3) := by decide +kernel
theorem dX0_numberOf_30 : decode cX0_numberOf 30 = .ok (.iload_n 2, 1) := by decide +kernel
theorem dX0_numberOf_31 : decode cX0_numberOf 31 = .ok (.iadd, 1) := by decide +kernel
theorem dX0_numberOf_32 : decode cX0_numberOf 32 = .ok (.aload_n 0, 1) := by decide +kernel
theorem dX0_numberOf_33 : decode cX0_numberOf 33 = .ok (.getfield 47, 3) := by decide +kernel
theorem dX0_numberOf_36 : decode cX0_numberOf 36 = .ok (.invokestatic 143, 3) := by decide +kernel
theorem dX0_numberOf_39 : decode cX0_numberOf 39 = .ok (.ireturn, 1) := by decide +kernel
set_option maxRecDepth 20000 in
theorem ggX0_bucketOf_X3_of : GoodIn wsX0_bucketOf wsX3_of := goodIn_r _ [7, 8, 9, 10, 11] (by decide +kernel) (by decide +kernel)
set_option maxRecDepth 20000 in
theorem gX0_bucketOf_X3_of_n87 : GoodIn wsX0_bucketOf (wsX3_of) := ggX0_bucketOf_X3_of
set_option maxRecDepth 20000 in
theorem ggX0_bucketOf_X7_remainder : GoodIn wsX0_bucketOf wsX7_remainder := goodIn_r _ [14] (by decide +kernel) (by decide +kernel)
set_option maxRecDepth 20000 in
theorem gX0_bucketOf_X7_remainder_n143 : GoodIn wsX0_bucketOf (wsX7_remainder) := ggX0_bucketOf_X7_remainder
theorem dX0_bucketOf_0 : decode cX0_bucketOf 0 = .ok (.getstatic 146, 3) := by decide +kernel
theorem dX0_bucketOf_3 : decode cX0_bucketOf 3 = .ok (.iload_n 1, 1) := by decide +kernel
theorem dX0_bucketOf_4 : decode cX0_bucketOf 4 = .ok (.aload_n 0, 1) := by decide +kernel
theorem dX0_bucketOf_5 : decode cX0_bucketOf 5 = .ok (.getfield 57, 3) := by decide +kernel
theorem dX0_bucketOf_8 : decode cX0_bucketOf 8 = .ok (.invokevirtual 87, 3) := by decide +kernel
theorem dX0_bucketOf_11 : decode cX0_bucketOf 11 = .ok (.aload_n 0, 1) := by decide +kernel
theorem dX0_bucketOf_12 : decode cX0_bucketOf 12 = .ok (.getfield 54, 3) := by decide +kernel
theorem dX0_bucketOf_15 : decode cX0_bucketOf 15 = .ok (.invokestatic 143, 3) := by decide +kernel
theorem dX0_bucketOf_18 : decode cX0_bucketOf 18 = .ok (.ireturn, 1) := by decide +kernel
set_option maxRecDepth 20000 in
theorem ggX0_stepOf_X3_of : GoodIn wsX0_stepOf wsX3_of := goodIn_r _ [7, 8, 9, 10, 11] (by decide +kernel) (by decide +kernel)
set_option maxRecDepth 20000 in
theorem gX0_stepOf_X3_of_n87 : GoodIn wsX0_stepOf (wsX3_of) := ggX0_stepOf_X3_of
set_option maxRecDepth 20000 in
theorem ggX0_stepOf_X7_remainder : GoodIn wsX0_stepOf wsX7_remainder := goodIn_r _ [14] (by decide +kernel) (by decide +kernel)
set_option maxRecDepth 20000 in
theorem gX0_stepOf_X7_remainder_n143 : GoodIn wsX0_stepOf (wsX7_remainder) := ggX0_stepOf_X7_remainder
theorem dX0_stepOf_0 : decode cX0_stepOf 0 = .ok (.aload_n 0, 1) := by decide +kernel
theorem dX0_stepOf_1 : decode cX0_stepOf 1 = .ok (.getfield 47, 3) := by decide +kernel
theorem dX0_stepOf_4 : decode cX0_stepOf 4 = .ok (.iconst 1, 1) := by decide +kernel
theorem dX0_stepOf_5 : decode cX0_stepOf 5 = .ok (.if_icmp .le 28, 3) := by decide +kernel
theorem dX0_stepOf_8 : decode cX0_stepOf 8 = .ok (.iconst 1, 1) := by decide +kernel
theorem dX0_stepOf_9 : decode cX0_stepOf 9 = .ok (.getstatic 149, 3) := by decide +kernel
theorem dX0_stepOf_12 : decode cX0_stepOf 12 = .ok (.iload_n 1, 1) := by decide +kernel
theorem dX0_stepOf_13 : decode cX0_stepOf 13 = .ok (.aload_n 0, 1) := by decide +kernel
theorem dX0_stepOf_14 : decode cX0_stepOf 14 = .ok (.getfield 57, 3) := by decide +kernel
theorem dX0_stepOf_17 : decode cX0_stepOf 17 = .ok (.invokevirtual 87, 3) := by decide +kernel
theorem dX0_stepOf_20 : decode cX0_stepOf 20 = .ok (.aload_n 0, 1) := by decide +kernel
theorem dX0_stepOf_21 : decode cX0_stepOf 21 = .ok (.getfield 47, 3) := by decide +kernel
theorem dX0_stepOf_24 : decode cX0_stepOf 24 = .ok (.iconst 1, 1) := by decide +kernel
theorem dX0_stepOf_25 : decode cX0_stepOf 25 = .ok (.isub, 1) := by decide +kernel
theorem dX0_stepOf_26 : decode cX0_stepOf 26 = .ok (.invokestatic 143, 3) := by decide +kernel
theorem dX0_stepOf_29 : decode cX0_stepOf 29 = .ok (.iadd, 1) := by decide +kernel
theorem dX0_stepOf_30 : decode cX0_stepOf 30 = .ok (.goto 4, 3) := by decide +kernel
theorem dX0_stepOf_33 : decode cX0_stepOf 33 = .ok (.iconst 1, 1) := by decide +kernel
theorem dX0_stepOf_34 : decode cX0_stepOf 34 = .ok (.ireturn, 1) := by decide +kernel
set_option maxRecDepth 20000 in
theorem ggX1_init_X2_init : GoodIn wsX1_init wsX2_init := goodIn_r _ [15, 16, 2, 3, 17, 9, 10, 18, 19, 20, 21, 22, 23, 24, 25, 26, 27, 28, 29, 43, 30, 31, 32, 33, 34] (by decide +kernel) (by decide +kernel)
set_option maxRecDepth 20000 in
theorem gX1_init_X2_init_n11 : GoodIn wsX1_init (wsX2_init) := ggX1_init_X2_init
set_option maxRecDepth 20000 in
theorem ggX1_init_X6_init : GoodIn wsX1_init wsX6_init := goodIn_r _ [22, 23, 2, 3, 24, 25, 26, 27, 28, 29, 43] (by decide +kernel) (by decide +kernel)
set_option maxRecDepth 20000 in
theorem gX1_init_X6_init_n22 : GoodIn wsX1_init (wsX6_init) := ggX1_init_X6_init
theorem dX1_init_0 : decode cX1_init 0 = .ok (.aload_n 0, 1) := by decide +kernel
theorem dX1_init_1 : decode cX1_init 1 = .ok (.invokespecial 3, 3) := by decide +kernel
theorem dX1_init_4 : decode cX1_init 4 = .ok (.aload_n 0, 1) := by decide +kernel
theorem dX1_init_5 : decode cX1_init 5 = .ok (.new 9, 3) := by decide +kernel
theorem dX1_init_8 : decode cX1_init 8 = .ok (.dup, 1) := by decide +kernel
theorem dX1_init_9 : decode cX1_init 9 = .ok (.sipush 240, 3) := by decide +kernel
theorem dX1_init_12 : decode cX1_init 12 = .ok (.sipush 360, 3) := by decide +kernel
theorem dX1_init_15 : decode cX1_init 15 = .ok (.invokespecial 11, 3) := by decide +kernel
theorem dX1_init_18 : decode cX1_init 18 = .ok (.putfield 14, 3) := by decide +kernel
theorem dX1_init_21 : decode cX1_init 21 = .ok (.aload_n 0, 1) := by decide +kernel
theorem dX1_init_22 : decode cX1_init 22 = .ok (.new 20, 3) := by decide +kernel
theorem dX1_init_25 : decode cX1_init 25 = .ok (.dup, 1) := by decide +kernel
theorem dX1_init_26 : decode cX1_init 26 = .ok (.bipush 120, 2) := by decide +kernel
theorem dX1_init_28 : decode cX1_init 28 = .ok (.invokespecial 22, 3) := by decide +kernel
theorem dX1_init_31 : decode cX1_init 31 = .ok (.putfield 25, 3) := by decide +kernel
theorem dX1_init_34 : decode cX1_init 34 = .ok (.aload_n 0, 1) := by decide +kernel
theorem dX1_init_35 : decode cX1_init 35 = .ok (.new 20, 3) := by decide +kernel
theorem dX1_init_38 : decode cX1_init 38 = .ok (.dup, 1) := by decide +kernel
theorem dX1_init_39 : decode cX1_init 39 = .ok (.sipush 360, 3) := by decide +kernel
theorem dX1_init_42 : decode cX1_init 42 = .ok (.invokespecial 22, 3) := by decide +kernel
theorem dX1_init_45 : decode cX1_init 45 = .ok (.putfield 29, 3) := by decide +kernel
theorem dX1_init_48 : decode cX1_init 48 = .ok (.aload_n 0, 1) := by decide +kernel
theorem dX1_init_49 : decode cX1_init 49 = .ok (.new 20, 3) := by decide +kernel
theorem dX1_init_52 : decode cX1_init 52 = .ok (.dup, 1) := by decide +kernel
theorem dX1_init_53 : decode cX1_init 53 = .ok (.sipush 360, 3) := by decide +kernel
theorem dX1_init_56 : decode cX1_init 56 = .ok (.invokespecial 22, 3) := by decide +kernel
theorem dX1_init_59 : decode cX1_init 59 = .ok (.putfield 32, 3) := by decide +kernel
theorem dX1_init_62 : decode cX1_init 62 = .ok (.return_, 1) := by decide +kernel
set_option maxRecDepth 20000 in
theorem ggX1_settle_X1_layEdges : GoodIn wsX1_settle wsX1_layEdges := goodIn_r _ [8, 9, 1, 2, 10, 11, 12, 13, 14, 15, 16, 17, 18, 19, 20, 21, 22, 23, 24, 25, 26, 27, 28, 29, 30, 31, 32, 33, 34, 35, 36, 37, 38, 7, 39, 3, 40, 41, 42, 43, 44, 45, 46, 47, 48, 49, 50, 51, 52, 53, 54, 55, 56, 57, 58, 59, 60, 61, 96, 97, 98, 99, 100, 101, 102, 103, 104, 105, 106, 107, 108, 109, 94, 95] (by decide +kernel) (by decide +kernel)
set_option maxRecDepth 20000 in
theorem gX1_settle_X1_layEdges : GoodIn wsX1_settle (wsV RX1 50 RX1 yX1_layEdges wsX1_layEdges) := goodIn_app (goodIn_of _ (by decide +kernel)) ggX1_settle_X1_layEdges
set_option maxRecDepth 20000 in
theorem ggX1_settle_X1_giveValues : GoodIn wsX1_settle wsX1_giveValues := goodIn_r _ [65, 66, 67, 2, 19, 20, 21, 22, 23, 24, 25, 26, 27, 33, 34, 35, 68, 69, 70, 7, 71, 72, 73, 74, 75, 76, 77, 55, 56, 57, 78, 79, 80, 81, 9, 1, 82, 13, 83, 84, 18, 85, 86, 87, 88, 89, 90, 61, 91, 92, 93, 54, 48, 49, 50, 96, 97, 98, 99, 100, 101, 102, 103, 109, 104, 105, 106, 107, 108] (by decide +kernel) (by decide +kernel)
set_option maxRecDepth 20000 in
theorem gX1_settle_X1_giveValues : GoodIn wsX1_settle (wsV RX1 54 RX1 yX1_giveValues wsX1_giveValues) := goodIn_app (goodIn_of _ (by decide +kernel)) ggX1_settle_X1_giveValues
theorem dX1_settle_0 : decode cX1_settle 0 = .ok (.aload_n 0, 1) := by decide +kernel
theorem dX1_settle_1 : decode cX1_settle 1 = .ok (.aload_n 1, 1) := by decide +kernel
theorem dX1_settle_2 : decode cX1_settle 2 = .ok (.getfield 35, 3) := by decide +kernel
theorem dX1_settle_5 : decode cX1_settle 5 = .ok (.putfield 41, 3) := by decide +kernel
theorem dX1_settle_8 : decode cX1_settle 8 = .ok (.aload_n 0, 1) := by decide +kernel
theorem dX1_settle_9 : decode cX1_settle 9 = .ok (.iconst 3, 1) := by decide +kernel
theorem dX1_settle_10 : decode cX1_settle 10 = .ok (.aload_n 0, 1) := by decide +kernel
theorem dX1_settle_11 : decode cX1_settle 11 = .ok (.getfield 41, 3) := by decide +kernel
theorem dX1_settle_14 : decode cX1_settle 14 = .ok (.imul, 1) := by decide +kernel
theorem dX1_settle_15 : decode cX1_settle 15 = .ok (.putfield 44, 3) := by decide +kernel
theorem dX1_settle_18 : decode cX1_settle 18 = .ok (.iconst 0, 1) := by decide +kernel
theorem dX1_settle_19 : decode cX1_settle 19 = .ok (.istore_n 2, 1) := by decide +kernel
theorem dX1_settle_20 : decode cX1_settle 20 = .ok (.iload_n 2, 1) := by decide +kernel
theorem dX1_settle_21 : decode cX1_settle 21 = .ok (.sipush 200, 3) := by decide +kernel
theorem dX1_settle_24 : decode cX1_settle 24 = .ok (.if_icmp .ge 28, 3) := by decide +kernel
theorem dX1_settle_27 : decode cX1_settle 27 = .ok (.aload_n 0, 1) := by decide +kernel
theorem dX1_settle_28 : decode cX1_settle 28 = .ok (.iload_n 2, 1) := by decide +kernel
theorem dX1_settle_29 : decode cX1_settle 29 = .ok (.putfield 47, 3) := by decide +kernel
theorem dX1_settle_32 : decode cX1_settle 32 = .ok (.aload_n 0, 1) := by decide +kernel
theorem dX1_settle_33 : decode cX1_settle 33 = .ok (.aload_n 1, 1) := by decide +kernel
theorem dX1_settle_34 : decode cX1_settle 34 = .ok (.invokevirtual 50, 3) := by decide +kernel
theorem dX1_settle_37 : decode cX1_settle 37 = .ok (.aload_n 0, 1) := by decide +kernel
theorem dX1_settle_38 : decode cX1_settle 38 = .ok (.invokevirtual 54, 3) := by decide +kernel
theorem dX1_settle_41 : decode cX1_settle 41 = .ok (.ifCond .eq 5, 3) := by decide +kernel
theorem dX1_settle_44 : decode cX1_settle 44 = .ok (.iconst 1, 1) := by decide +kernel
theorem dX1_settle_45 : decode cX1_settle 45 = .ok (.ireturn, 1) := by decide +kernel
theorem dX1_settle_46 : decode cX1_settle 46 = .ok (.iinc 2 1, 3) := by decide +kernel
theorem dX1_settle_49 : decode cX1_settle 49 = .ok (.goto (-29), 3) := by decide +kernel
theorem dX1_settle_52 : decode cX1_settle 52 = .ok (.iconst 0, 1) := by decide +kernel
theorem dX1_settle_53 : decode cX1_settle 53 = .ok (.ireturn, 1) := by decide +kernel
set_option maxRecDepth 20000 in
theorem ggX1_layEdges_X2_restart : GoodIn wsX1_layEdges wsX2_restart := goodIn_r _ [9, 10, 11, 12, 13, 14, 15, 16, 17, 18, 19, 20, 21, 66, 67, 68, 69, 70, 71] (by decide +kernel) (by decide +kernel)
set_option maxRecDepth 20000 in
theorem gX1_layEdges_X2_restart_n58 : GoodIn wsX1_layEdges (wsX2_restart) := ggX1_layEdges_X2_restart
set_option maxRecDepth 20000 in
theorem ggX1_layEdges_X4_at : GoodIn wsX1_layEdges wsX4_at := goodIn_r _ [25, 26, 27, 14, 28, 29, 17, 72, 73, 71] (by decide +kernel) (by decide +kernel)
set_option maxRecDepth 20000 in
theorem gX1_layEdges_X4_at_n61 : GoodIn wsX1_layEdges (wsX4_at) := ggX1_layEdges_X4_at
set_option maxRecDepth 20000 in
theorem ggX1_layEdges_X1_vertexOf : GoodIn wsX1_layEdges wsX1_vertexOf := goodIn_r _ [34, 35, 3, 36, 37, 38, 39, 40, 41, 42, 43, 44, 45, 46, 58, 59, 60, 61, 62, 63, 64, 65] (by decide +kernel) (by decide +kernel)
set_option maxRecDepth 20000 in
theorem gX1_layEdges_X1_vertexOf : GoodIn wsX1_layEdges (wsV RX1 71 RX1 yX1_vertexOf wsX1_vertexOf) := goodIn_app (goodIn_of _ (by decide +kernel)) ggX1_layEdges_X1_vertexOf
set_option maxRecDepth 20000 in
theorem ggX1_layEdges_X2_assign : GoodIn wsX1_layEdges wsX2_assign := goodIn_r _ [49, 50, 12, 51, 14, 52, 53, 17, 27, 28, 29, 66, 67, 68, 69, 70, 71] (by decide +kernel) (by decide +kernel)
set_option maxRecDepth 20000 in
theorem gX1_layEdges_X2_assign_n75 : GoodIn wsX1_layEdges (wsX2_assign) := ggX1_layEdges_X2_assign
set_option maxRecDepth 20000 in
theorem ggX1_layEdges_X2_arrange : GoodIn wsX1_layEdges wsX2_arrange := goodIn_r _ [56, 11, 12, 10, 50, 57, 27, 14, 28, 29, 17, 51, 52, 53, 66, 67, 68, 69, 70, 71] (by decide +kernel) (by decide +kernel)
set_option maxRecDepth 20000 in
theorem gX1_layEdges_X2_arrange_n81 : GoodIn wsX1_layEdges (wsX2_arrange) := ggX1_layEdges_X2_arrange
theorem dX1_layEdges_0 : decode cX1_layEdges 0 = .ok (.aload_n 0, 1) := by decide +kernel
theorem dX1_layEdges_1 : decode cX1_layEdges 1 = .ok (.getfield 14, 3) := by decide +kernel
theorem dX1_layEdges_4 : decode cX1_layEdges 4 = .ok (.iconst 2, 1) := by decide +kernel
theorem dX1_layEdges_5 : decode cX1_layEdges 5 = .ok (.aload_n 0, 1) := by decide +kernel
theorem dX1_layEdges_6 : decode cX1_layEdges 6 = .ok (.getfield 41, 3) := by decide +kernel
theorem dX1_layEdges_9 : decode cX1_layEdges 9 = .ok (.imul, 1) := by decide +kernel
theorem dX1_layEdges_10 : decode cX1_layEdges 10 = .ok (.aload_n 0, 1) := by decide +kernel
theorem dX1_layEdges_11 : decode cX1_layEdges 11 = .ok (.getfield 44, 3) := by decide +kernel
theorem dX1_layEdges_14 : decode cX1_layEdges 14 = .ok (.invokevirtual 58, 3) := by decide +kernel
theorem dX1_layEdges_17 : decode cX1_layEdges 17 = .ok (.iconst 0, 1) := by decide +kernel
theorem dX1_layEdges_18 : decode cX1_layEdges 18 = .ok (.istore_n 2, 1) := by decide +kernel
theorem dX1_layEdges_19 : decode cX1_layEdges 19 = .ok (.iload_n 2, 1) := by decide +kernel
theorem dX1_layEdges_20 : decode cX1_layEdges 20 = .ok (.aload_n 0, 1) := by decide +kernel
theorem dX1_layEdges_21 : decode cX1_layEdges 21 = .ok (.getfield 41, 3) := by decide +kernel
theorem dX1_layEdges_24 : decode cX1_layEdges 24 = .ok (.if_icmp .ge 53, 3) := by decide +kernel
theorem dX1_layEdges_27 : decode cX1_layEdges 27 = .ok (.aload_n 1, 1) := by decide +kernel
theorem dX1_layEdges_28 : decode cX1_layEdges 28 = .ok (.iload_n 2, 1) := by decide +kernel
theorem dX1_layEdges_29 : decode cX1_layEdges 29 = .ok (.invokevirtual 61, 3) := by decide +kernel
theorem dX1_layEdges_32 : decode cX1_layEdges 32 = .ok (.istore_n 3, 1) := by decide +kernel
theorem dX1_layEdges_33 : decode cX1_layEdges 33 = .ok (.aload_n 0, 1) := by decide +kernel
theorem dX1_layEdges_34 : decode cX1_layEdges 34 = .ok (.getfield 14, 3) := by decide +kernel
theorem dX1_layEdges_37 : decode cX1_layEdges 37 = .ok (.iconst 2, 1) := by decide +kernel
theorem dX1_layEdges_38 : decode cX1_layEdges 38 = .ok (.iload_n 2, 1) := by decide +kernel
theorem dX1_layEdges_39 : decode cX1_layEdges 39 = .ok (.imul, 1) := by decide +kernel
theorem dX1_layEdges_40 : decode cX1_layEdges 40 = .ok (.aload_n 0, 1) := by decide +kernel
theorem dX1_layEdges_41 : decode cX1_layEdges 41 = .ok (.getstatic 65, 3) := by decide +kernel
theorem dX1_layEdges_44 : decode cX1_layEdges 44 = .ok (.iload_n 3, 1) := by decide +kernel
theorem dX1_layEdges_45 : decode cX1_layEdges 45 = .ok (.invokevirtual 71, 3) := by decide +kernel
theorem dX1_layEdges_48 : decode cX1_layEdges 48 = .ok (.invokevirtual 75, 3) := by decide +kernel
theorem dX1_layEdges_51 : decode cX1_layEdges 51 = .ok (.aload_n 0, 1) := by decide +kernel
theorem dX1_layEdges_52 : decode cX1_layEdges 52 = .ok (.getfield 14, 3) := by decide +kernel
theorem dX1_layEdges_55 : decode cX1_layEdges 55 = .ok (.iconst 2, 1) := by decide +kernel
theorem dX1_layEdges_56 : decode cX1_layEdges 56 = .ok (.iload_n 2, 1) := by decide +kernel
theorem dX1_layEdges_57 : decode cX1_layEdges 57 = .ok (.imul, 1) := by decide +kernel
theorem dX1_layEdges_58 : decode cX1_layEdges 58 = .ok (.iconst 1, 1) := by decide +kernel
theorem dX1_layEdges_59 : decode cX1_layEdges 59 = .ok (.iadd, 1) := by decide +kernel
theorem dX1_layEdges_60 : decode cX1_layEdges 60 = .ok (.aload_n 0, 1) := by decide +kernel
theorem dX1_layEdges_61 : decode cX1_layEdges 61 = .ok (.getstatic 78, 3) := by decide +kernel
theorem dX1_layEdges_64 : decode cX1_layEdges 64 = .ok (.iload_n 3, 1) := by decide +kernel
theorem dX1_layEdges_65 : decode cX1_layEdges 65 = .ok (.invokevirtual 71, 3) := by decide +kernel
theorem dX1_layEdges_68 : decode cX1_layEdges 68 = .ok (.invokevirtual 75, 3) := by decide +kernel
theorem dX1_layEdges_71 : decode cX1_layEdges 71 = .ok (.iinc 2 1, 3) := by decide +kernel
theorem dX1_layEdges_74 : decode cX1_layEdges 74 = .ok (.goto (-55), 3) := by decide +kernel
theorem dX1_layEdges_77 : decode cX1_layEdges 77 = .ok (.aload_n 0, 1) := by decide +kernel
theorem dX1_layEdges_78 : decode cX1_layEdges 78 = .ok (.getfield 14, 3) := by decide +kernel
theorem dX1_layEdges_81 : decode cX1_layEdges 81 = .ok (.invokevirtual 81, 3) := by decide +kernel
theorem dX1_layEdges_84 : decode cX1_layEdges 84 = .ok (.return_, 1) := by decide +kernel
set_option maxRecDepth 20000 in
theorem ggX1_giveValues_X6_fill : GoodIn wsX1_giveValues wsX6_fill := goodIn_r _ [7, 8, 9, 10, 11, 12, 63] (by decide +kernel) (by decide +kernel)
set_option maxRecDepth 20000 in
theorem gX1_giveValues_X6_fill_n84 : GoodIn wsX1_giveValues (wsX6_fill) := ggX1_giveValues_X6_fill
set_option maxRecDepth 20000 in
theorem ggX1_giveValues_X6_get : GoodIn wsX1_giveValues wsX6_get := goodIn_r _ [15, 8, 63] (by decide +kernel) (by decide +kernel)
set_option maxRecDepth 20000 in
theorem gX1_giveValues_X6_get_n87 : GoodIn wsX1_giveValues (wsX6_get) := ggX1_giveValues_X6_get
set_option maxRecDepth 20000 in
theorem ggX1_giveValues_X1_walkFrom : GoodIn wsX1_giveValues wsX1_walkFrom := goodIn_r _ [20, 21, 3, 22, 23, 24, 25, 19, 26, 1, 27, 5, 28, 29, 8, 13, 14, 15, 30, 31, 32, 33, 34, 2, 35, 36, 37, 38, 39, 40, 41, 42, 43, 44, 45, 46, 47, 48, 49, 50, 51, 52, 53, 54, 55, 56, 57, 58, 59, 60, 61, 62, 63, 64, 65, 66, 67, 68] (by decide +kernel) (by decide +kernel)
set_option maxRecDepth 20000 in
theorem gX1_giveValues_X1_walkFrom : GoodIn wsX1_giveValues (wsV RX1 90 RX1 yX1_walkFrom wsX1_walkFrom) := goodIn_app (goodIn_of _ (by decide +kernel)) ggX1_giveValues_X1_walkFrom
theorem dX1_giveValues_0 : decode cX1_giveValues 0 = .ok (.aload_n 0, 1) := by decide +kernel
theorem dX1_giveValues_1 : decode cX1_giveValues 1 = .ok (.getfield 29, 3) := by decide +kernel
theorem dX1_giveValues_4 : decode cX1_giveValues 4 = .ok (.iconst (-1), 1) := by decide +kernel
theorem dX1_giveValues_5 : decode cX1_giveValues 5 = .ok (.invokevirtual 84, 3) := by decide +kernel
theorem dX1_giveValues_8 : decode cX1_giveValues 8 = .ok (.aload_n 0, 1) := by decide +kernel
theorem dX1_giveValues_9 : decode cX1_giveValues 9 = .ok (.getfield 25, 3) := by decide +kernel
theorem dX1_giveValues_12 : decode cX1_giveValues 12 = .ok (.iconst 0, 1) := by decide +kernel
theorem dX1_giveValues_13 : decode cX1_giveValues 13 = .ok (.invokevirtual 84, 3) := by decide +kernel
theorem dX1_giveValues_16 : decode cX1_giveValues 16 = .ok (.iconst 0, 1) := by decide +kernel
theorem dX1_giveValues_17 : decode cX1_giveValues 17 = .ok (.istore_n 1, 1) := by decide +kernel
theorem dX1_giveValues_18 : decode cX1_giveValues 18 = .ok (.iload_n 1, 1) := by decide +kernel
theorem dX1_giveValues_19 : decode cX1_giveValues 19 = .ok (.aload_n 0, 1) := by decide +kernel
theorem dX1_giveValues_20 : decode cX1_giveValues 20 = .ok (.getfield 44, 3) := by decide +kernel
theorem dX1_giveValues_23 : decode cX1_giveValues 23 = .ok (.if_icmp .ge 31, 3) := by decide +kernel
theorem dX1_giveValues_26 : decode cX1_giveValues 26 = .ok (.aload_n 0, 1) := by decide +kernel
theorem dX1_giveValues_27 : decode cX1_giveValues 27 = .ok (.getfield 29, 3) := by decide +kernel
theorem dX1_giveValues_30 : decode cX1_giveValues 30 = .ok (.iload_n 1, 1) := by decide +kernel
theorem dX1_giveValues_31 : decode cX1_giveValues 31 = .ok (.invokevirtual 87, 3) := by decide +kernel
theorem dX1_giveValues_34 : decode cX1_giveValues 34 = .ok (.iconst (-1), 1) := by decide +kernel
theorem dX1_giveValues_35 : decode cX1_giveValues 35 = .ok (.if_icmp .ne 13, 3) := by decide +kernel
theorem dX1_giveValues_38 : decode cX1_giveValues 38 = .ok (.aload_n 0, 1) := by decide +kernel
theorem dX1_giveValues_39 : decode cX1_giveValues 39 = .ok (.iload_n 1, 1) := by decide +kernel
theorem dX1_giveValues_40 : decode cX1_giveValues 40 = .ok (.invokevirtual 90, 3) := by decide +kernel
theorem dX1_giveValues_43 : decode cX1_giveValues 43 = .ok (.ifCond .ne 5, 3) := by decide +kernel
theorem dX1_giveValues_46 : decode cX1_giveValues 46 = .ok (.iconst 0, 1) := by decide +kernel
theorem dX1_giveValues_47 : decode cX1_giveValues 47 = .ok (.ireturn, 1) := by decide +kernel
theorem dX1_giveValues_48 : decode cX1_giveValues 48 = .ok (.iinc 1 1, 3) := by decide +kernel
theorem dX1_giveValues_51 : decode cX1_giveValues 51 = .ok (.goto (-33), 3) := by decide +kernel
theorem dX1_giveValues_54 : decode cX1_giveValues 54 = .ok (.iconst 1, 1) := by decide +kernel
theorem dX1_giveValues_55 : decode cX1_giveValues 55 = .ok (.ireturn, 1) := by decide +kernel
set_option maxRecDepth 20000 in
theorem ggX1_walkFrom_X1_reach : GoodIn wsX1_walkFrom wsX1_reach := goodIn_r _ [8, 9, 3, 1, 10, 11, 12, 13, 14, 44, 45, 46, 47, 48, 49, 50, 51, 52] (by decide +kernel) (by decide +kernel)
set_option maxRecDepth 20000 in
theorem gX1_walkFrom_X1_reach : GoodIn wsX1_walkFrom (wsV RX1 97 RX1 yX1_reach wsX1_reach) := goodIn_app (goodIn_of _ (by decide +kernel)) ggX1_walkFrom_X1_reach
set_option maxRecDepth 20000 in
theorem ggX1_walkFrom_X6_get : GoodIn wsX1_walkFrom wsX6_get := goodIn_r _ [17, 14, 52] (by decide +kernel) (by decide +kernel)
set_option maxRecDepth 20000 in
theorem gX1_walkFrom_X6_get_n87 : GoodIn wsX1_walkFrom (wsX6_get) := ggX1_walkFrom_X6_get
set_option maxRecDepth 20000 in
theorem ggX1_walkFrom_X1_walkOn : GoodIn wsX1_walkFrom wsX1_walkOn := goodIn_r _ [21, 22, 23, 9, 24, 25, 26, 27, 28, 29, 15, 11, 16, 17, 14, 30, 31, 32, 33, 34, 35, 36, 10, 12, 13, 37, 38, 39, 40, 41, 42, 43, 4, 5, 6, 7, 8, 3, 1, 44, 45, 46, 47, 48, 49, 50, 51, 53, 54, 55, 56, 57, 52] (by decide +kernel) (by decide +kernel)
set_option maxRecDepth 20000 in
theorem gX1_walkFrom_X1_walkOn : GoodIn wsX1_walkFrom (wsV RX1 100 RX1 yX1_walkOn wsX1_walkOn) := goodIn_app (goodIn_of _ (by decide +kernel)) ggX1_walkFrom_X1_walkOn
theorem dX1_walkFrom_0 : decode cX1_walkFrom 0 = .ok (.aload_n 0, 1) := by decide +kernel
theorem dX1_walkFrom_1 : decode cX1_walkFrom 1 = .ok (.iconst 0, 1) := by decide +kernel
theorem dX1_walkFrom_2 : decode cX1_walkFrom 2 = .ok (.putfield 94, 3) := by decide +kernel
theorem dX1_walkFrom_5 : decode cX1_walkFrom 5 = .ok (.aload_n 0, 1) := by decide +kernel
theorem dX1_walkFrom_6 : decode cX1_walkFrom 6 = .ok (.iload_n 1, 1) := by decide +kernel
theorem dX1_walkFrom_7 : decode cX1_walkFrom 7 = .ok (.iconst 0, 1) := by decide +kernel
theorem dX1_walkFrom_8 : decode cX1_walkFrom 8 = .ok (.invokevirtual 97, 3) := by decide +kernel
theorem dX1_walkFrom_11 : decode cX1_walkFrom 11 = .ok (.iconst 0, 1) := by decide +kernel
theorem dX1_walkFrom_12 : decode cX1_walkFrom 12 = .ok (.istore_n 2, 1) := by decide +kernel
theorem dX1_walkFrom_13 : decode cX1_walkFrom 13 = .ok (.iload_n 2, 1) := by decide +kernel
theorem dX1_walkFrom_14 : decode cX1_walkFrom 14 = .ok (.aload_n 0, 1) := by decide +kernel
theorem dX1_walkFrom_15 : decode cX1_walkFrom 15 = .ok (.getfield 94, 3) := by decide +kernel
theorem dX1_walkFrom_18 : decode cX1_walkFrom 18 = .ok (.if_icmp .ge 34, 3) := by decide +kernel
theorem dX1_walkFrom_21 : decode cX1_walkFrom 21 = .ok (.iload_n 2, 1) := by decide +kernel
theorem dX1_walkFrom_22 : decode cX1_walkFrom 22 = .ok (.aload_n 0, 1) := by decide +kernel
theorem dX1_walkFrom_23 : decode cX1_walkFrom 23 = .ok (.getfield 44, 3) := by decide +kernel
theorem dX1_walkFrom_26 : decode cX1_walkFrom 26 = .ok (.if_icmp .ge 26, 3) := by decide +kernel
theorem dX1_walkFrom_29 : decode cX1_walkFrom 29 = .ok (.aload_n 0, 1) := by decide +kernel
theorem dX1_walkFrom_30 : decode cX1_walkFrom 30 = .ok (.aload_n 0, 1) := by decide +kernel
theorem dX1_walkFrom_31 : decode cX1_walkFrom 31 = .ok (.getfield 32, 3) := by decide +kernel
theorem dX1_walkFrom_34 : decode cX1_walkFrom 34 = .ok (.iload_n 2, 1) := by decide +kernel
theorem dX1_walkFrom_35 : decode cX1_walkFrom 35 = .ok (.invokevirtual 87, 3) := by decide +kernel
theorem dX1_walkFrom_38 : decode cX1_walkFrom 38 = .ok (.invokevirtual 100, 3) := by decide +kernel
theorem dX1_walkFrom_41 : decode cX1_walkFrom 41 = .ok (.ifCond .ne 5, 3) := by decide +kernel
theorem dX1_walkFrom_44 : decode cX1_walkFrom 44 = .ok (.iconst 0, 1) := by decide +kernel
theorem dX1_walkFrom_45 : decode cX1_walkFrom 45 = .ok (.ireturn, 1) := by decide +kernel
theorem dX1_walkFrom_46 : decode cX1_walkFrom 46 = .ok (.iinc 2 1, 3) := by decide +kernel
theorem dX1_walkFrom_49 : decode cX1_walkFrom 49 = .ok (.goto (-36), 3) := by decide +kernel
theorem dX1_walkFrom_52 : decode cX1_walkFrom 52 = .ok (.iconst 1, 1) := by decide +kernel
theorem dX1_walkFrom_53 : decode cX1_walkFrom 53 = .ok (.ireturn, 1) := by decide +kernel
set_option maxRecDepth 20000 in
theorem ggX1_walkOn_X2_beginOf : GoodIn wsX1_walkOn wsX2_beginOf := goodIn_r _ [8, 9, 10, 11, 12, 13, 14, 47, 48, 49, 50, 51, 52] (by decide +kernel) (by decide +kernel)
set_option maxRecDepth 20000 in
theorem gX1_walkOn_X2_beginOf_n103 : GoodIn wsX1_walkOn (wsX2_beginOf) := ggX1_walkOn_X2_beginOf
set_option maxRecDepth 20000 in
theorem ggX1_walkOn_X2_endOf : GoodIn wsX1_walkOn wsX2_endOf := goodIn_r _ [17, 9, 10, 11, 12, 13, 14, 47, 48, 49, 50, 51, 52] (by decide +kernel) (by decide +kernel)
set_option maxRecDepth 20000 in
theorem gX1_walkOn_X2_endOf_n106 : GoodIn wsX1_walkOn (wsX2_endOf) := ggX1_walkOn_X2_endOf
set_option maxRecDepth 20000 in
theorem ggX1_walkOn_X2_memberAt : GoodIn wsX1_walkOn wsX2_memberAt := goodIn_r _ [20, 21, 10, 11, 12, 13, 14, 47, 48, 49, 50, 51, 52] (by decide +kernel) (by decide +kernel)
set_option maxRecDepth 20000 in
theorem gX1_walkOn_X2_memberAt_n109 : GoodIn wsX1_walkOn (wsX2_memberAt) := ggX1_walkOn_X2_memberAt
set_option maxRecDepth 20000 in
theorem ggX1_walkOn_X6_get : GoodIn wsX1_walkOn wsX6_get := goodIn_r _ [13, 14, 52] (by decide +kernel) (by decide +kernel)
set_option maxRecDepth 20000 in
theorem gX1_walkOn_X6_get_n87 : GoodIn wsX1_walkOn (wsX6_get) := ggX1_walkOn_X6_get
set_option maxRecDepth 20000 in
theorem ggX1_walkOn_X6_set : GoodIn wsX1_walkOn wsX6_set := goodIn_r _ [24, 14, 52] (by decide +kernel) (by decide +kernel)
set_option maxRecDepth 20000 in
theorem gX1_walkOn_X6_set_n112 : GoodIn wsX1_walkOn (wsX6_set) := ggX1_walkOn_X6_set
set_option maxRecDepth 20000 in
theorem ggX1_walkOn_X2_groupOf : GoodIn wsX1_walkOn wsX2_groupOf := goodIn_r _ [27, 28, 10, 11, 12, 13, 14, 47, 48, 49, 50, 51, 52] (by decide +kernel) (by decide +kernel)
set_option maxRecDepth 20000 in
theorem gX1_walkOn_X2_groupOf_n115 : GoodIn wsX1_walkOn (wsX2_groupOf) := ggX1_walkOn_X2_groupOf
set_option maxRecDepth 20000 in
theorem ggX1_walkOn_X7_remainder : GoodIn wsX1_walkOn wsX7_remainder := goodIn_r _ [31] (by decide +kernel) (by decide +kernel)
set_option maxRecDepth 20000 in
theorem gX1_walkOn_X7_remainder_n118 : GoodIn wsX1_walkOn (wsX7_remainder) := ggX1_walkOn_X7_remainder
set_option maxRecDepth 20000 in
theorem ggX1_walkOn_X1_reach : GoodIn wsX1_walkOn wsX1_reach := goodIn_r _ [36, 3, 37, 38, 22, 11, 23, 24, 14, 39, 40, 41, 42, 43, 44, 45, 46, 52] (by decide +kernel) (by decide +kernel)
set_option maxRecDepth 20000 in
theorem gX1_walkOn_X1_reach : GoodIn wsX1_walkOn (wsV RX1 97 RX1 yX1_reach wsX1_reach) := goodIn_app (goodIn_of _ (by decide +kernel)) ggX1_walkOn_X1_reach
theorem dX1_walkOn_0 : decode cX1_walkOn 0 = .ok (.aload_n 0, 1) := by decide +kernel
theorem dX1_walkOn_1 : decode cX1_walkOn 1 = .ok (.getfield 14, 3) := by decide +kernel
theorem dX1_walkOn_4 : decode cX1_walkOn 4 = .ok (.iload_n 1, 1) := by decide +kernel
theorem dX1_walkOn_5 : decode cX1_walkOn 5 = .ok (.invokevirtual 103, 3) := by decide +kernel
theorem dX1_walkOn_8 : decode cX1_walkOn 8 = .ok (.istore_n 2, 1) := by decide +kernel
theorem dX1_walkOn_9 : decode cX1_walkOn 9 = .ok (.iload_n 2, 1) := by decide +kernel
theorem dX1_walkOn_10 : decode cX1_walkOn 10 = .ok (.aload_n 0, 1) := by decide +kernel
theorem dX1_walkOn_11 : decode cX1_walkOn 11 = .ok (.getfield 14, 3) := by decide +kernel
theorem dX1_walkOn_14 : decode cX1_walkOn 14 = .ok (.iload_n 1, 1) := by decide +kernel
theorem dX1_walkOn_15 : decode cX1_walkOn 15 = .ok (.invokevirtual 106, 3) := by decide +kernel
theorem dX1_walkOn_18 : decode cX1_walkOn 18 = .ok (.if_icmp .ge 101, 3) := by decide +kernel
theorem dX1_walkOn_21 : decode cX1_walkOn 21 = .ok (.aload_n 0, 1) := by decide +kernel
theorem dX1_walkOn_22 : decode cX1_walkOn 22 = .ok (.getfield 14, 3) := by decide +kernel
theorem dX1_walkOn_25 : decode cX1_walkOn 25 = .ok (.iload_n 2, 1) := by decide +kernel
theorem dX1_walkOn_26 : decode cX1_walkOn 26 = .ok (.invokevirtual 109, 3) := by decide +kernel
theorem dX1_walkOn_29 : decode cX1_walkOn 29 = .ok (.istore_n 3, 1) := by decide +kernel
theorem dX1_walkOn_30 : decode cX1_walkOn 30 = .ok (.iload_n 3, 1) := by decide +kernel
theorem dX1_walkOn_31 : decode cX1_walkOn 31 = .ok (.iconst 1, 1) := by decide +kernel
theorem dX1_walkOn_32 : decode cX1_walkOn 32 = .ok (.ishr, 1) := by decide +kernel
theorem dX1_walkOn_33 : decode cX1_walkOn 33 = .ok (.istore 4, 2) := by decide +kernel
theorem dX1_walkOn_35 : decode cX1_walkOn 35 = .ok (.aload_n 0, 1) := by decide +kernel
theorem dX1_walkOn_36 : decode cX1_walkOn 36 = .ok (.getfield 25, 3) := by decide +kernel
theorem dX1_walkOn_39 : decode cX1_walkOn 39 = .ok (.iload 4, 2) := by decide +kernel
theorem dX1_walkOn_41 : decode cX1_walkOn 41 = .ok (.invokevirtual 87, 3) := by decide +kernel
theorem dX1_walkOn_44 : decode cX1_walkOn 44 = .ok (.ifCond .ne 69, 3) := by decide +kernel
theorem dX1_walkOn_47 : decode cX1_walkOn 47 = .ok (.aload_n 0, 1) := by decide +kernel
theorem dX1_walkOn_48 : decode cX1_walkOn 48 = .ok (.getfield 25, 3) := by decide +kernel
theorem dX1_walkOn_51 : decode cX1_walkOn 51 = .ok (.iload 4, 2) := by decide +kernel
theorem dX1_walkOn_53 : decode cX1_walkOn 53 = .ok (.iconst 1, 1) := by decide +kernel
theorem dX1_walkOn_54 : decode cX1_walkOn 54 = .ok (.invokevirtual 112, 3) := by decide +kernel
theorem dX1_walkOn_57 : decode cX1_walkOn 57 = .ok (.aload_n 0, 1) := by decide +kernel
theorem dX1_walkOn_58 : decode cX1_walkOn 58 = .ok (.getfield 14, 3) := by decide +kernel
theorem dX1_walkOn_61 : decode cX1_walkOn 61 = .ok (.iload_n 3, 1) := by decide +kernel
theorem dX1_walkOn_62 : decode cX1_walkOn 62 = .ok (.iconst 1, 1) := by decide +kernel
theorem dX1_walkOn_63 : decode cX1_walkOn 63 = .ok (.ixor, 1) := by decide +kernel
theorem dX1_walkOn_64 : decode cX1_walkOn 64 = .ok (.invokevirtual 115, 3) := by decide +kernel
theorem dX1_walkOn_67 : decode cX1_walkOn 67 = .ok (.istore 5, 2) := by decide +kernel
theorem dX1_walkOn_69 : decode cX1_walkOn 69 = .ok (.aload_n 0, 1) := by decide +kernel
theorem dX1_walkOn_70 : decode cX1_walkOn 70 = .ok (.getfield 29, 3) := by decide +kernel
theorem dX1_walkOn_73 : decode cX1_walkOn 73 = .ok (.iload 5, 2) := by decide +kernel
theorem dX1_walkOn_75 : decode cX1_walkOn 75 = .ok (.invokevirtual 87, 3) := by decide +kernel
theorem dX1_walkOn_78 : decode cX1_walkOn 78 = .ok (.iconst (-1), 1) := by decide +kernel
theorem dX1_walkOn_79 : decode cX1_walkOn 79 = .ok (.if_icmp .eq 5, 3) := by decide +kernel
theorem dX1_walkOn_82 : decode cX1_walkOn 82 = .ok (.iconst 0, 1) := by decide +kernel
theorem dX1_walkOn_83 : decode cX1_walkOn 83 = .ok (.ireturn, 1) := by decide +kernel
theorem dX1_walkOn_84 : decode cX1_walkOn 84 = .ok (.aload_n 0, 1) := by decide +kernel
theorem dX1_walkOn_85 : decode cX1_walkOn 85 = .ok (.iload 5, 2) := by decide +kernel
theorem dX1_walkOn_87 : decode cX1_walkOn 87 = .ok (.iload 4, 2) := by decide +kernel
theorem dX1_walkOn_89 : decode cX1_walkOn 89 = .ok (.aload_n 0, 1) := by decide +kernel
theorem dX1_walkOn_90 : decode cX1_walkOn 90 = .ok (.getfield 29, 3) := by decide +kernel
theorem dX1_walkOn_93 : decode cX1_walkOn 93 = .ok (.iload_n 1, 1) := by decide +kernel
theorem dX1_walkOn_94 : decode cX1_walkOn 94 = .ok (.invokevirtual 87, 3) := by decide +kernel
theorem dX1_walkOn_97 : decode cX1_walkOn 97 = .ok (.isub, 1) := by decide +kernel
theorem dX1_walkOn_98 : decode cX1_walkOn 98 = .ok (.aload_n 0, 1) := by decide +kernel
theorem dX1_walkOn_99 : decode cX1_walkOn 99 = .ok (.getfield 41, 3) := by decide +kernel
theorem dX1_walkOn_102 : decode cX1_walkOn 102 = .ok (.iadd, 1) := by decide +kernel
theorem dX1_walkOn_103 : decode cX1_walkOn 103 = .ok (.aload_n 0, 1) := by decide +kernel
theorem dX1_walkOn_104 : decode cX1_walkOn 104 = .ok (.getfield 41, 3) := by decide +kernel
theorem dX1_walkOn_107 : decode cX1_walkOn 107 = .ok (.invokestatic 118, 3) := by decide +kernel
theorem dX1_walkOn_110 : decode cX1_walkOn 110 = .ok (.invokevirtual 97, 3) := by decide +kernel
theorem dX1_walkOn_113 : decode cX1_walkOn 113 = .ok (.iinc 2 1, 3) := by decide +kernel
theorem dX1_walkOn_116 : decode cX1_walkOn 116 = .ok (.goto (-107), 3) := by decide +kernel
theorem dX1_walkOn_119 : decode cX1_walkOn 119 = .ok (.iconst 1, 1) := by decide +kernel
theorem dX1_walkOn_120 : decode cX1_walkOn 120 = .ok (.ireturn, 1) := by decide +kernel
set_option maxRecDepth 20000 in
theorem ggX1_reach_X6_set : GoodIn wsX1_reach wsX6_set := goodIn_r _ [7, 8, 17] (by decide +kernel) (by decide +kernel)
set_option maxRecDepth 20000 in
theorem gX1_reach_X6_set_n112 : GoodIn wsX1_reach (wsX6_set) := ggX1_reach_X6_set
theorem dX1_reach_0 : decode cX1_reach 0 = .ok (.aload_n 0, 1) := by decide +kernel
theorem dX1_reach_1 : decode cX1_reach 1 = .ok (.getfield 29, 3) := by decide +kernel
theorem dX1_reach_4 : decode cX1_reach 4 = .ok (.iload_n 1, 1) := by decide +kernel
theorem dX1_reach_5 : decode cX1_reach 5 = .ok (.iload_n 2, 1) := by decide +kernel
theorem dX1_reach_6 : decode cX1_reach 6 = .ok (.invokevirtual 112, 3) := by decide +kernel
theorem dX1_reach_9 : decode cX1_reach 9 = .ok (.aload_n 0, 1) := by decide +kernel
theorem dX1_reach_10 : decode cX1_reach 10 = .ok (.getfield 32, 3) := by decide +kernel
theorem dX1_reach_13 : decode cX1_reach 13 = .ok (.aload_n 0, 1) := by decide +kernel
theorem dX1_reach_14 : decode cX1_reach 14 = .ok (.getfield 94, 3) := by decide +kernel
theorem dX1_reach_17 : decode cX1_reach 17 = .ok (.iload_n 1, 1) := by decide +kernel
theorem dX1_reach_18 : decode cX1_reach 18 = .ok (.invokevirtual 112, 3) := by decide +kernel
theorem dX1_reach_21 : decode cX1_reach 21 = .ok (.aload_n 0, 1) := by decide +kernel
theorem dX1_reach_22 : decode cX1_reach 22 = .ok (.dup, 1) := by decide +kernel
theorem dX1_reach_23 : decode cX1_reach 23 = .ok (.getfield 94, 3) := by decide +kernel
theorem dX1_reach_26 : decode cX1_reach 26 = .ok (.iconst 1, 1) := by decide +kernel
theorem dX1_reach_27 : decode cX1_reach 27 = .ok (.iadd, 1) := by decide +kernel
theorem dX1_reach_28 : decode cX1_reach 28 = .ok (.putfield 94, 3) := by decide +kernel
theorem dX1_reach_31 : decode cX1_reach 31 = .ok (.return_, 1) := by decide +kernel
set_option maxRecDepth 20000 in
theorem ggX1_vertexOf_X3_of : GoodIn wsX1_vertexOf wsX3_of := goodIn_r _ [6, 7, 8, 9, 10] (by decide +kernel) (by decide +kernel)
set_option maxRecDepth 20000 in
theorem gX1_vertexOf_X3_of_n122 : GoodIn wsX1_vertexOf (wsX3_of) := ggX1_vertexOf_X3_of
set_option maxRecDepth 20000 in
theorem ggX1_vertexOf_X7_remainder : GoodIn wsX1_vertexOf wsX7_remainder := goodIn_r _ [13] (by decide +kernel) (by decide +kernel)
set_option maxRecDepth 20000 in
theorem gX1_vertexOf_X7_remainder_n118 : GoodIn wsX1_vertexOf (wsX7_remainder) := ggX1_vertexOf_X7_remainder
theorem dX1_vertexOf_0 : decode cX1_vertexOf 0 = .ok (.aload_n 1, 1) := by decide +kernel
theorem dX1_vertexOf_1 : decode cX1_vertexOf 1 = .ok (.iload_n 2, 1) := by decide +kernel
theorem dX1_vertexOf_2 : decode cX1_vertexOf 2 = .ok (.aload_n 0, 1) := by decide +kernel
theorem dX1_vertexOf_3 : decode cX1_vertexOf 3 = .ok (.getfield 47, 3) := by decide +kernel
theorem dX1_vertexOf_6 : decode cX1_vertexOf 6 = .ok (.invokevirtual 122, 3) := by decide +kernel
theorem dX1_vertexOf_9 : decode cX1_vertexOf 9 = .ok (.aload_n 0, 1) := by decide +kernel
theorem dX1_vertexOf_10 : decode cX1_vertexOf 10 = .ok (.getfield 44, 3) := by decide +kernel
theorem dX1_vertexOf_13 : decode cX1_vertexOf 13 = .ok (.invokestatic 118, 3) := by decide +kernel
theorem dX1_vertexOf_16 : decode cX1_vertexOf 16 = .ok (.ireturn, 1) := by decide +kernel
set_option maxRecDepth 20000 in
theorem ggX1_sumFor_X1_vertexOf : GoodIn wsX1_sumFor wsX1_vertexOf := goodIn_r _ [9, 10, 11, 12, 13, 14, 15, 16, 17, 18, 19, 20, 21, 22, 28, 29, 30, 31, 32, 33, 34, 35] (by decide +kernel) (by decide +kernel)
set_option maxRecDepth 20000 in
theorem gX1_sumFor_X1_vertexOf : GoodIn wsX1_sumFor (wsV RX1 71 RX1 yX1_vertexOf wsX1_vertexOf) := goodIn_app (goodIn_of _ (by decide +kernel)) ggX1_sumFor_X1_vertexOf
set_option maxRecDepth 20000 in
theorem ggX1_sumFor_X6_get : GoodIn wsX1_sumFor wsX6_get := goodIn_r _ [26, 27, 36] (by decide +kernel) (by decide +kernel)
set_option maxRecDepth 20000 in
theorem gX1_sumFor_X6_get_n87 : GoodIn wsX1_sumFor (wsX6_get) := ggX1_sumFor_X6_get
set_option maxRecDepth 20000 in
theorem ggX1_sumFor_X7_remainder : GoodIn wsX1_sumFor wsX7_remainder := goodIn_r _ [22] (by decide +kernel) (by decide +kernel)
set_option maxRecDepth 20000 in
theorem gX1_sumFor_X7_remainder_n118 : GoodIn wsX1_sumFor (wsX7_remainder) := ggX1_sumFor_X7_remainder
theorem dX1_sumFor_0 : decode cX1_sumFor 0 = .ok (.aload_n 0, 1) := by decide +kernel
theorem dX1_sumFor_1 : decode cX1_sumFor 1 = .ok (.getfield 29, 3) := by decide +kernel
theorem dX1_sumFor_4 : decode cX1_sumFor 4 = .ok (.aload_n 0, 1) := by decide +kernel
theorem dX1_sumFor_5 : decode cX1_sumFor 5 = .ok (.getstatic 65, 3) := by decide +kernel
theorem dX1_sumFor_8 : decode cX1_sumFor 8 = .ok (.iload_n 1, 1) := by decide +kernel
theorem dX1_sumFor_9 : decode cX1_sumFor 9 = .ok (.invokevirtual 71, 3) := by decide +kernel
theorem dX1_sumFor_12 : decode cX1_sumFor 12 = .ok (.invokevirtual 87, 3) := by decide +kernel
theorem dX1_sumFor_15 : decode cX1_sumFor 15 = .ok (.istore_n 2, 1) := by decide +kernel
theorem dX1_sumFor_16 : decode cX1_sumFor 16 = .ok (.aload_n 0, 1) := by decide +kernel
theorem dX1_sumFor_17 : decode cX1_sumFor 17 = .ok (.getfield 29, 3) := by decide +kernel
theorem dX1_sumFor_20 : decode cX1_sumFor 20 = .ok (.aload_n 0, 1) := by decide +kernel
theorem dX1_sumFor_21 : decode cX1_sumFor 21 = .ok (.getstatic 78, 3) := by decide +kernel
theorem dX1_sumFor_24 : decode cX1_sumFor 24 = .ok (.iload_n 1, 1) := by decide +kernel
theorem dX1_sumFor_25 : decode cX1_sumFor 25 = .ok (.invokevirtual 71, 3) := by decide +kernel
theorem dX1_sumFor_28 : decode cX1_sumFor 28 = .ok (.invokevirtual 87, 3) := by decide +kernel
theorem dX1_sumFor_31 : decode cX1_sumFor 31 = .ok (.istore_n 3, 1) := by decide +kernel
theorem dX1_sumFor_32 : decode cX1_sumFor 32 = .ok (.iload_n 2, 1) := by decide +kernel
theorem dX1_sumFor_33 : decode cX1_sumFor 33 = .ok (.iload_n 3, 1) := by decide +kernel
theorem dX1_sumFor_34 : decode cX1_sumFor 34 = .ok (.iadd, 1) := by decide +kernel
theorem dX1_sumFor_35 : decode cX1_sumFor 35 = .ok (.aload_n 0, 1) := by decide +kernel
theorem dX1_sumFor_36 : decode cX1_sumFor 36 = .ok (.getfield 41, 3) := by decide +kernel
theorem dX1_sumFor_39 : decode cX1_sumFor 39 = .ok (.invokestatic 118, 3) := by decide +kernel
theorem dX1_sumFor_42 : decode cX1_sumFor 42 = .ok (.ireturn, 1) := by decide +kernel
set_option maxRecDepth 20000 in
theorem ggX2_init_X6_init : GoodIn wsX2_init wsX6_init := goodIn_r _ [11, 12, 2, 3, 13, 14, 15, 16, 17, 18, 19] (by decide +kernel) (by decide +kernel)
set_option maxRecDepth 20000 in
theorem gX2_init_X6_init_n9 : GoodIn wsX2_init (wsX6_init) := ggX2_init_X6_init
theorem dX2_init_0 : decode cX2_init 0 = .ok (.aload_n 0, 1) := by decide +kernel
theorem dX2_init_1 : decode cX2_init 1 = .ok (.invokespecial 1, 3) := by decide +kernel
theorem dX2_init_4 : decode cX2_init 4 = .ok (.aload_n 0, 1) := by decide +kernel
theorem dX2_init_5 : decode cX2_init 5 = .ok (.new 7, 3) := by decide +kernel
theorem dX2_init_8 : decode cX2_init 8 = .ok (.dup, 1) := by decide +kernel
theorem dX2_init_9 : decode cX2_init 9 = .ok (.iload_n 1, 1) := by decide +kernel
theorem dX2_init_10 : decode cX2_init 10 = .ok (.invokespecial 9, 3) := by decide +kernel
theorem dX2_init_13 : decode cX2_init 13 = .ok (.putfield 12, 3) := by decide +kernel
theorem dX2_init_16 : decode cX2_init 16 = .ok (.aload_n 0, 1) := by decide +kernel
theorem dX2_init_17 : decode cX2_init 17 = .ok (.new 7, 3) := by decide +kernel
theorem dX2_init_20 : decode cX2_init 20 = .ok (.dup, 1) := by decide +kernel
theorem dX2_init_21 : decode cX2_init 21 = .ok (.iload_n 2, 1) := by decide +kernel
theorem dX2_init_22 : decode cX2_init 22 = .ok (.iconst 1, 1) := by decide +kernel
theorem dX2_init_23 : decode cX2_init 23 = .ok (.iadd, 1) := by decide +kernel
theorem dX2_init_24 : decode cX2_init 24 = .ok (.invokespecial 9, 3) := by decide +kernel
theorem dX2_init_27 : decode cX2_init 27 = .ok (.putfield 18, 3) := by decide +kernel
theorem dX2_init_30 : decode cX2_init 30 = .ok (.aload_n 0, 1) := by decide +kernel
theorem dX2_init_31 : decode cX2_init 31 = .ok (.new 7, 3) := by decide +kernel
theorem dX2_init_34 : decode cX2_init 34 = .ok (.dup, 1) := by decide +kernel
theorem dX2_init_35 : decode cX2_init 35 = .ok (.iload_n 1, 1) := by decide +kernel
theorem dX2_init_36 : decode cX2_init 36 = .ok (.invokespecial 9, 3) := by decide +kernel
theorem dX2_init_39 : decode cX2_init 39 = .ok (.putfield 21, 3) := by decide +kernel
theorem dX2_init_42 : decode cX2_init 42 = .ok (.return_, 1) := by decide +kernel
end
section
set_option maxRecDepth 20000 in
theorem ggX2_restart_X6_fill : GoodIn wsX2_restart wsX6_fill := goodIn_r _ [7, 8, 9, 10, 11, 12, 18] (by decide +kernel) (by decide +kernel)
set_option maxRecDepth 20000 in
theorem gX2_restart_X6_fill_n31 : GoodIn wsX2_restart (wsX6_fill) := ggX2_restart_X6_fill
theorem dX2_restart_0 : decode cX2_restart 0 = .ok (.aload_n 0, 1) := by decide +kernel
theorem dX2_restart_1 : decode cX2_restart 1 = .ok (.iload_n 1, 1) := by decide +kernel
theorem dX2_restart_2 : decode cX2_restart 2 = .ok (.putfield 24, 3) := by decide +kernel
theorem dX2_restart_5 : decode cX2_restart 5 = .ok (.aload_n 0, 1) := by decide +kernel
theorem dX2_restart_6 : decode cX2_restart 6 = .ok (.iload_n 2, 1) := by decide +kernel
theorem dX2_restart_7 : decode cX2_restart 7 = .ok (.putfield 28, 3) := by decide +kernel
theorem dX2_restart_10 : decode cX2_restart 10 = .ok (.aload_n 0, 1) := by decide +kernel
theorem dX2_restart_11 : decode cX2_restart 11 = .ok (.getfield 18, 3) := by decide +kernel
theorem dX2_restart_14 : decode cX2_restart 14 = .ok (.iconst 0, 1) := by decide +kernel
theorem dX2_restart_15 : decode cX2_restart 15 = .ok (.invokevirtual 31, 3) := by decide +kernel
theorem dX2_restart_18 : decode cX2_restart 18 = .ok (.return_, 1) := by decide +kernel
set_option maxRecDepth 20000 in
theorem ggX2_assign_X6_set : GoodIn wsX2_assign wsX6_set := goodIn_r _ [6, 7, 16] (by decide +kernel) (by decide +kernel)
set_option maxRecDepth 20000 in
theorem gX2_assign_X6_set_n34 : GoodIn wsX2_assign (wsX6_set) := ggX2_assign_X6_set
set_option maxRecDepth 20000 in
theorem ggX2_assign_X6_get : GoodIn wsX2_assign wsX6_get := goodIn_r _ [10, 7, 16] (by decide +kernel) (by decide +kernel)
set_option maxRecDepth 20000 in
theorem gX2_assign_X6_get_n38 : GoodIn wsX2_assign (wsX6_get) := ggX2_assign_X6_get
theorem dX2_assign_0 : decode cX2_assign 0 = .ok (.aload_n 0, 1) := by decide +kernel
theorem dX2_assign_1 : decode cX2_assign 1 = .ok (.getfield 12, 3) := by decide +kernel
theorem dX2_assign_4 : decode cX2_assign 4 = .ok (.iload_n 1, 1) := by decide +kernel
theorem dX2_assign_5 : decode cX2_assign 5 = .ok (.iload_n 2, 1) := by decide +kernel
theorem dX2_assign_6 : decode cX2_assign 6 = .ok (.invokevirtual 34, 3) := by decide +kernel
theorem dX2_assign_9 : decode cX2_assign 9 = .ok (.aload_n 0, 1) := by decide +kernel
theorem dX2_assign_10 : decode cX2_assign 10 = .ok (.getfield 18, 3) := by decide +kernel
theorem dX2_assign_13 : decode cX2_assign 13 = .ok (.iload_n 2, 1) := by decide +kernel
theorem dX2_assign_14 : decode cX2_assign 14 = .ok (.aload_n 0, 1) := by decide +kernel
theorem dX2_assign_15 : decode cX2_assign 15 = .ok (.getfield 18, 3) := by decide +kernel
theorem dX2_assign_18 : decode cX2_assign 18 = .ok (.iload_n 2, 1) := by decide +kernel
theorem dX2_assign_19 : decode cX2_assign 19 = .ok (.invokevirtual 38, 3) := by decide +kernel
theorem dX2_assign_22 : decode cX2_assign 22 = .ok (.iconst 1, 1) := by decide +kernel
theorem dX2_assign_23 : decode cX2_assign 23 = .ok (.iadd, 1) := by decide +kernel
theorem dX2_assign_24 : decode cX2_assign 24 = .ok (.invokevirtual 34, 3) := by decide +kernel
theorem dX2_assign_27 : decode cX2_assign 27 = .ok (.return_, 1) := by decide +kernel
set_option maxRecDepth 20000 in
theorem ggX2_arrange_X6_get : GoodIn wsX2_arrange wsX6_get := goodIn_r _ [9, 10, 19] (by decide +kernel) (by decide +kernel)
set_option maxRecDepth 20000 in
theorem gX2_arrange_X6_get_n38 : GoodIn wsX2_arrange (wsX6_get) := ggX2_arrange_X6_get
set_option maxRecDepth 20000 in
theorem ggX2_arrange_X6_set : GoodIn wsX2_arrange wsX6_set := goodIn_r _ [13, 10, 19] (by decide +kernel) (by decide +kernel)
set_option maxRecDepth 20000 in
theorem gX2_arrange_X6_set_n34 : GoodIn wsX2_arrange (wsX6_set) := ggX2_arrange_X6_set
theorem dX2_arrange_0 : decode cX2_arrange 0 = .ok (.iconst 0, 1) := by decide +kernel
theorem dX2_arrange_1 : decode cX2_arrange 1 = .ok (.istore_n 1, 1) := by decide +kernel
theorem dX2_arrange_2 : decode cX2_arrange 2 = .ok (.iconst 0, 1) := by decide +kernel
theorem dX2_arrange_3 : decode cX2_arrange 3 = .ok (.istore_n 2, 1) := by decide +kernel
theorem dX2_arrange_4 : decode cX2_arrange 4 = .ok (.iload_n 2, 1) := by decide +kernel
theorem dX2_arrange_5 : decode cX2_arrange 5 = .ok (.aload_n 0, 1) := by decide +kernel
theorem dX2_arrange_6 : decode cX2_arrange 6 = .ok (.getfield 28, 3) := by decide +kernel
theorem dX2_arrange_9 : decode cX2_arrange 9 = .ok (.if_icmp .gt 29, 3) := by decide +kernel
theorem dX2_arrange_12 : decode cX2_arrange 12 = .ok (.iload_n 1, 1) := by decide +kernel
theorem dX2_arrange_13 : decode cX2_arrange 13 = .ok (.aload_n 0, 1) := by decide +kernel
theorem dX2_arrange_14 : decode cX2_arrange 14 = .ok (.getfield 18, 3) := by decide +kernel
theorem dX2_arrange_17 : decode cX2_arrange 17 = .ok (.iload_n 2, 1) := by decide +kernel
theorem dX2_arrange_18 : decode cX2_arrange 18 = .ok (.invokevirtual 38, 3) := by decide +kernel
theorem dX2_arrange_21 : decode cX2_arrange 21 = .ok (.iadd, 1) := by decide +kernel
theorem dX2_arrange_22 : decode cX2_arrange 22 = .ok (.istore_n 1, 1) := by decide +kernel
theorem dX2_arrange_23 : decode cX2_arrange 23 = .ok (.aload_n 0, 1) := by decide +kernel
theorem dX2_arrange_24 : decode cX2_arrange 24 = .ok (.getfield 18, 3) := by decide +kernel
theorem dX2_arrange_27 : decode cX2_arrange 27 = .ok (.iload_n 2, 1) := by decide +kernel
theorem dX2_arrange_28 : decode cX2_arrange 28 = .ok (.iload_n 1, 1) := by decide +kernel
theorem dX2_arrange_29 : decode cX2_arrange 29 = .ok (.invokevirtual 34, 3) := by decide +kernel
theorem dX2_arrange_32 : decode cX2_arrange 32 = .ok (.iinc 2 1, 3) := by decide +kernel
theorem dX2_arrange_35 : decode cX2_arrange 35 = .ok (.goto (-31), 3) := by decide +kernel
theorem dX2_arrange_38 : decode cX2_arrange 38 = .ok (.aload_n 0, 1) := by decide +kernel
theorem dX2_arrange_39 : decode cX2_arrange 39 = .ok (.getfield 24, 3) := by decide +kernel
theorem dX2_arrange_42 : decode cX2_arrange 42 = .ok (.iconst 1, 1) := by decide +kernel
theorem dX2_arrange_43 : decode cX2_arrange 43 = .ok (.isub, 1) := by decide +kernel
theorem dX2_arrange_44 : decode cX2_arrange 44 = .ok (.istore_n 2, 1) := by decide +kernel
theorem dX2_arrange_45 : decode cX2_arrange 45 = .ok (.iload_n 2, 1) := by decide +kernel
theorem dX2_arrange_46 : decode cX2_arrange 46 = .ok (.ifCond .lt 50, 3) := by decide +kernel
theorem dX2_arrange_49 : decode cX2_arrange 49 = .ok (.aload_n 0, 1) := by decide +kernel
theorem dX2_arrange_50 : decode cX2_arrange 50 = .ok (.getfield 12, 3) := by decide +kernel
theorem dX2_arrange_53 : decode cX2_arrange 53 = .ok (.iload_n 2, 1) := by decide +kernel
theorem dX2_arrange_54 : decode cX2_arrange 54 = .ok (.invokevirtual 38, 3) := by decide +kernel
theorem dX2_arrange_57 : decode cX2_arrange 57 = .ok (.istore_n 3, 1) := by decide +kernel
theorem dX2_arrange_58 : decode cX2_arrange 58 = .ok (.aload_n 0, 1) := by decide +kernel
theorem dX2_arrange_59 : decode cX2_arrange 59 = .ok (.getfield 18, 3) := by decide +kernel
theorem dX2_arrange_62 : decode cX2_arrange 62 = .ok (.iload_n 3, 1) := by decide +kernel
theorem dX2_arrange_63 : decode cX2_arrange 63 = .ok (.invokevirtual 38, 3) := by decide +kernel
theorem dX2_arrange_66 : decode cX2_arrange 66 = .ok (.iconst 1, 1) := by decide +kernel
theorem dX2_arrange_67 : decode cX2_arrange 67 = .ok (.isub, 1) := by decide +kernel
theorem dX2_arrange_68 : decode cX2_arrange 68 = .ok (.istore 4, 2) := by decide +kernel
theorem dX2_arrange_70 : decode cX2_arrange 70 = .ok (.aload_n 0, 1) := by decide +kernel
theorem dX2_arrange_71 : decode cX2_arrange 71 = .ok (.getfield 18, 3) := by decide +kernel
theorem dX2_arrange_74 : decode cX2_arrange 74 = .ok (.iload_n 3, 1) := by decide +kernel
theorem dX2_arrange_75 : decode cX2_arrange 75 = .ok (.iload 4, 2) := by decide +kernel
theorem dX2_arrange_77 : decode cX2_arrange 77 = .ok (.invokevirtual 34, 3) := by decide +kernel
theorem dX2_arrange_80 : decode cX2_arrange 80 = .ok (.aload_n 0, 1) := by decide +kernel
theorem dX2_arrange_81 : decode cX2_arrange 81 = .ok (.getfield 21, 3) := by decide +kernel
theorem dX2_arrange_84 : decode cX2_arrange 84 = .ok (.iload 4, 2) := by decide +kernel
theorem dX2_arrange_86 : decode cX2_arrange 86 = .ok (.iload_n 2, 1) := by decide +kernel
theorem dX2_arrange_87 : decode cX2_arrange 87 = .ok (.invokevirtual 34, 3) := by decide +kernel
theorem dX2_arrange_90 : decode cX2_arrange 90 = .ok (.iinc 2 (-1), 3) := by decide +kernel
theorem dX2_arrange_93 : decode cX2_arrange 93 = .ok (.goto (-48), 3) := by decide +kernel
theorem dX2_arrange_96 : decode cX2_arrange 96 = .ok (.return_, 1) := by decide +kernel
set_option maxRecDepth 20000 in
theorem ggX2_groupOf_X6_get : GoodIn wsX2_groupOf wsX6_get := goodIn_r _ [5, 6, 12] (by decide +kernel) (by decide +kernel)
set_option maxRecDepth 20000 in
theorem gX2_groupOf_X6_get_n38 : GoodIn wsX2_groupOf (wsX6_get) := ggX2_groupOf_X6_get
theorem dX2_groupOf_0 : decode cX2_groupOf 0 = .ok (.aload_n 0, 1) := by decide +kernel
theorem dX2_groupOf_1 : decode cX2_groupOf 1 = .ok (.getfield 12, 3) := by decide +kernel
theorem dX2_groupOf_4 : decode cX2_groupOf 4 = .ok (.iload_n 1, 1) := by decide +kernel
theorem dX2_groupOf_5 : decode cX2_groupOf 5 = .ok (.invokevirtual 38, 3) := by decide +kernel
theorem dX2_groupOf_8 : decode cX2_groupOf 8 = .ok (.ireturn, 1) := by decide +kernel
set_option maxRecDepth 20000 in
theorem ggX2_beginOf_X6_get : GoodIn wsX2_beginOf wsX6_get := goodIn_r _ [5, 6, 12] (by decide +kernel) (by decide +kernel)
set_option maxRecDepth 20000 in
theorem gX2_beginOf_X6_get_n38 : GoodIn wsX2_beginOf (wsX6_get) := ggX2_beginOf_X6_get
theorem dX2_beginOf_0 : decode cX2_beginOf 0 = .ok (.aload_n 0, 1) := by decide +kernel
theorem dX2_beginOf_1 : decode cX2_beginOf 1 = .ok (.getfield 18, 3) := by decide +kernel
theorem dX2_beginOf_4 : decode cX2_beginOf 4 = .ok (.iload_n 1, 1) := by decide +kernel
theorem dX2_beginOf_5 : decode cX2_beginOf 5 = .ok (.invokevirtual 38, 3) := by decide +kernel
theorem dX2_beginOf_8 : decode cX2_beginOf 8 = .ok (.ireturn, 1) := by decide +kernel
set_option maxRecDepth 20000 in
theorem ggX2_endOf_X6_get : GoodIn wsX2_endOf wsX6_get := goodIn_r _ [5, 6, 12] (by decide +kernel) (by decide +kernel)
set_option maxRecDepth 20000 in
theorem gX2_endOf_X6_get_n38 : GoodIn wsX2_endOf (wsX6_get) := ggX2_endOf_X6_get
theorem dX2_endOf_0 : decode cX2_endOf 0 = .ok (.aload_n 0, 1) := by decide +kernel
theorem dX2_endOf_1 : decode cX2_endOf 1 = .ok (.getfield 18, 3) := by decide +kernel
theorem dX2_endOf_4 : decode cX2_endOf 4 = .ok (.iload_n 1, 1) := by decide +kernel
theorem dX2_endOf_5 : decode cX2_endOf 5 = .ok (.iconst 1, 1) := by decide +kernel
theorem dX2_endOf_6 : decode cX2_endOf 6 = .ok (.iadd, 1) := by decide +kernel
theorem dX2_endOf_7 : decode cX2_endOf 7 = .ok (.invokevirtual 38, 3) := by decide +kernel
theorem dX2_endOf_10 : decode cX2_endOf 10 = .ok (.ireturn, 1) := by decide +kernel
set_option maxRecDepth 20000 in
theorem ggX2_sizeOf_X2_endOf : GoodIn wsX2_sizeOf wsX2_endOf := goodIn_r _ [5, 6, 7, 8, 9, 10, 11, 16, 17, 18, 19, 20, 21] (by decide +kernel) (by decide +kernel)
set_option maxRecDepth 20000 in
theorem gX2_sizeOf_X2_endOf : GoodIn wsX2_sizeOf (wsV RX2 42 RX2 yX2_endOf wsX2_endOf) := goodIn_app (goodIn_of _ (by decide +kernel)) ggX2_sizeOf_X2_endOf
set_option maxRecDepth 20000 in
theorem ggX2_sizeOf_X2_beginOf : GoodIn wsX2_sizeOf wsX2_beginOf := goodIn_r _ [15, 6, 7, 8, 9, 10, 11, 16, 17, 18, 19, 20, 21] (by decide +kernel) (by decide +kernel)
set_option maxRecDepth 20000 in
theorem gX2_sizeOf_X2_beginOf : GoodIn wsX2_sizeOf (wsV RX2 45 RX2 yX2_beginOf wsX2_beginOf) := goodIn_app (goodIn_of _ (by decide +kernel)) ggX2_sizeOf_X2_beginOf
theorem dX2_sizeOf_0 : decode cX2_sizeOf 0 = .ok (.aload_n 0, 1) := by decide +kernel
theorem dX2_sizeOf_1 : decode cX2_sizeOf 1 = .ok (.iload_n 1, 1) := by decide +kernel
theorem dX2_sizeOf_2 : decode cX2_sizeOf 2 = .ok (.invokevirtual 42, 3) := by decide +kernel
theorem dX2_sizeOf_5 : decode cX2_sizeOf 5 = .ok (.aload_n 0, 1) := by decide +kernel
theorem dX2_sizeOf_6 : decode cX2_sizeOf 6 = .ok (.iload_n 1, 1) := by decide +kernel
theorem dX2_sizeOf_7 : decode cX2_sizeOf 7 = .ok (.invokevirtual 45, 3) := by decide +kernel
theorem dX2_sizeOf_10 : decode cX2_sizeOf 10 = .ok (.isub, 1) := by decide +kernel
theorem dX2_sizeOf_11 : decode cX2_sizeOf 11 = .ok (.ireturn, 1) := by decide +kernel
set_option maxRecDepth 20000 in
theorem ggX2_memberAt_X6_get : GoodIn wsX2_memberAt wsX6_get := goodIn_r _ [5, 6, 12] (by decide +kernel) (by decide +kernel)
set_option maxRecDepth 20000 in
theorem gX2_memberAt_X6_get_n38 : GoodIn wsX2_memberAt (wsX6_get) := ggX2_memberAt_X6_get
theorem dX2_memberAt_0 : decode cX2_memberAt 0 = .ok (.aload_n 0, 1) := by decide +kernel
theorem dX2_memberAt_1 : decode cX2_memberAt 1 = .ok (.getfield 21, 3) := by decide +kernel
theorem dX2_memberAt_4 : decode cX2_memberAt 4 = .ok (.iload_n 1, 1) := by decide +kernel
theorem dX2_memberAt_5 : decode cX2_memberAt 5 = .ok (.invokevirtual 38, 3) := by decide +kernel
theorem dX2_memberAt_8 : decode cX2_memberAt 8 = .ok (.ireturn, 1) := by decide +kernel
theorem dX3_of_0 : decode cX3_of 0 = .ok (.iload_n 1, 1) := by decide +kernel
theorem dX3_of_1 : decode cX3_of 1 = .ok (.i2l, 1) := by decide +kernel
theorem dX3_of_2 : decode cX3_of 2 = .ok (.aload_n 0, 1) := by decide +kernel
theorem dX3_of_3 : decode cX3_of 3 = .ok (.getfield 43, 3) := by decide +kernel
theorem dX3_of_6 : decode cX3_of 6 = .ok (.lmul, 1) := by decide +kernel
theorem dX3_of_7 : decode cX3_of 7 = .ok (.iload_n 2, 1) := by decide +kernel
theorem dX3_of_8 : decode cX3_of 8 = .ok (.i2l, 1) := by decide +kernel
theorem dX3_of_9 : decode cX3_of 9 = .ok (.aload_n 0, 1) := by decide +kernel
theorem dX3_of_10 : decode cX3_of 10 = .ok (.getfield 47, 3) := by decide +kernel
theorem dX3_of_13 : decode cX3_of 13 = .ok (.lmul, 1) := by decide +kernel
theorem dX3_of_14 : decode cX3_of 14 = .ok (.ladd, 1) := by decide +kernel
theorem dX3_of_15 : decode cX3_of 15 = .ok (.aload_n 0, 1) := by decide +kernel
theorem dX3_of_16 : decode cX3_of 16 = .ok (.getfield 50, 3) := by decide +kernel
theorem dX3_of_19 : decode cX3_of 19 = .ok (.ladd, 1) := by decide +kernel
theorem dX3_of_20 : decode cX3_of 20 = .ok (.ldc2_w 53, 3) := by decide +kernel
theorem dX3_of_23 : decode cX3_of 23 = .ok (.lrem, 1) := by decide +kernel
theorem dX3_of_24 : decode cX3_of 24 = .ok (.l2i, 1) := by decide +kernel
theorem dX3_of_25 : decode cX3_of 25 = .ok (.ireturn, 1) := by decide +kernel
set_option maxRecDepth 20000 in
theorem ggX4_init_X6_init : GoodIn wsX4_init wsX6_init := goodIn_r _ [9, 10, 2, 3, 11, 12, 13, 14, 15, 16, 17] (by decide +kernel) (by decide +kernel)
set_option maxRecDepth 20000 in
theorem gX4_init_X6_init_n11 : GoodIn wsX4_init (wsX6_init) := ggX4_init_X6_init
theorem dX4_init_0 : decode cX4_init 0 = .ok (.aload_n 0, 1) := by decide +kernel
theorem dX4_init_1 : decode cX4_init 1 = .ok (.invokespecial 3, 3) := by decide +kernel
theorem dX4_init_4 : decode cX4_init 4 = .ok (.aload_n 0, 1) := by decide +kernel
theorem dX4_init_5 : decode cX4_init 5 = .ok (.new 9, 3) := by decide +kernel
theorem dX4_init_8 : decode cX4_init 8 = .ok (.dup, 1) := by decide +kernel
theorem dX4_init_9 : decode cX4_init 9 = .ok (.bipush 120, 2) := by decide +kernel
theorem dX4_init_11 : decode cX4_init 11 = .ok (.invokespecial 11, 3) := by decide +kernel
theorem dX4_init_14 : decode cX4_init 14 = .ok (.putfield 14, 3) := by decide +kernel
theorem dX4_init_17 : decode cX4_init 17 = .ok (.return_, 1) := by decide +kernel
set_option maxRecDepth 20000 in
theorem ggX4_at_X6_get : GoodIn wsX4_at wsX6_get := goodIn_r _ [5, 6, 9] (by decide +kernel) (by decide +kernel)
set_option maxRecDepth 20000 in
theorem gX4_at_X6_get_n20 : GoodIn wsX4_at (wsX6_get) := ggX4_at_X6_get
theorem dX4_at_0 : decode cX4_at 0 = .ok (.aload_n 0, 1) := by decide +kernel
theorem dX4_at_1 : decode cX4_at 1 = .ok (.getfield 14, 3) := by decide +kernel
theorem dX4_at_4 : decode cX4_at 4 = .ok (.iload_n 1, 1) := by decide +kernel
theorem dX4_at_5 : decode cX4_at 5 = .ok (.invokevirtual 20, 3) := by decide +kernel
theorem dX4_at_8 : decode cX4_at 8 = .ok (.ireturn, 1) := by decide +kernel
set_option maxRecDepth 20000 in
theorem ggX4_rankOf_X6_get : GoodIn wsX4_rankOf wsX6_get := goodIn_r _ [6, 7, 10] (by decide +kernel) (by decide +kernel)
set_option maxRecDepth 20000 in
theorem gX4_rankOf_X6_get_n20 : GoodIn wsX4_rankOf (wsX6_get) := ggX4_rankOf_X6_get
theorem dX4_rankOf_0 : decode cX4_rankOf 0 = .ok (.iconst 0, 1) := by decide +kernel
theorem dX4_rankOf_1 : decode cX4_rankOf 1 = .ok (.istore_n 2, 1) := by decide +kernel
theorem dX4_rankOf_2 : decode cX4_rankOf 2 = .ok (.aload_n 0, 1) := by decide +kernel
theorem dX4_rankOf_3 : decode cX4_rankOf 3 = .ok (.getfield 24, 3) := by decide +kernel
theorem dX4_rankOf_6 : decode cX4_rankOf 6 = .ok (.istore_n 3, 1) := by decide +kernel
theorem dX4_rankOf_7 : decode cX4_rankOf 7 = .ok (.iload_n 2, 1) := by decide +kernel
theorem dX4_rankOf_8 : decode cX4_rankOf 8 = .ok (.iload_n 3, 1) := by decide +kernel
theorem dX4_rankOf_9 : decode cX4_rankOf 9 = .ok (.if_icmp .ge 37, 3) := by decide +kernel
theorem dX4_rankOf_12 : decode cX4_rankOf 12 = .ok (.iload_n 2, 1) := by decide +kernel
theorem dX4_rankOf_13 : decode cX4_rankOf 13 = .ok (.iload_n 3, 1) := by decide +kernel
theorem dX4_rankOf_14 : decode cX4_rankOf 14 = .ok (.iadd, 1) := by decide +kernel
theorem dX4_rankOf_15 : decode cX4_rankOf 15 = .ok (.iconst 1, 1) := by decide +kernel
theorem dX4_rankOf_16 : decode cX4_rankOf 16 = .ok (.ishr, 1) := by decide +kernel
theorem dX4_rankOf_17 : decode cX4_rankOf 17 = .ok (.istore 4, 2) := by decide +kernel
theorem dX4_rankOf_19 : decode cX4_rankOf 19 = .ok (.aload_n 0, 1) := by decide +kernel
theorem dX4_rankOf_20 : decode cX4_rankOf 20 = .ok (.getfield 14, 3) := by decide +kernel
theorem dX4_rankOf_23 : decode cX4_rankOf 23 = .ok (.iload 4, 2) := by decide +kernel
theorem dX4_rankOf_25 : decode cX4_rankOf 25 = .ok (.invokevirtual 20, 3) := by decide +kernel
theorem dX4_rankOf_28 : decode cX4_rankOf 28 = .ok (.iload_n 1, 1) := by decide +kernel
theorem dX4_rankOf_29 : decode cX4_rankOf 29 = .ok (.if_icmp .ge 11, 3) := by decide +kernel
theorem dX4_rankOf_32 : decode cX4_rankOf 32 = .ok (.iload 4, 2) := by decide +kernel
theorem dX4_rankOf_34 : decode cX4_rankOf 34 = .ok (.iconst 1, 1) := by decide +kernel
theorem dX4_rankOf_35 : decode cX4_rankOf 35 = .ok (.iadd, 1) := by decide +kernel
theorem dX4_rankOf_36 : decode cX4_rankOf 36 = .ok (.istore_n 2, 1) := by decide +kernel
theorem dX4_rankOf_37 : decode cX4_rankOf 37 = .ok (.goto 6, 3) := by decide +kernel
theorem dX4_rankOf_40 : decode cX4_rankOf 40 = .ok (.iload 4, 2) := by decide +kernel
theorem dX4_rankOf_42 : decode cX4_rankOf 42 = .ok (.istore_n 3, 1) := by decide +kernel
theorem dX4_rankOf_43 : decode cX4_rankOf 43 = .ok (.goto (-36), 3) := by decide +kernel
theorem dX4_rankOf_46 : decode cX4_rankOf 46 = .ok (.iload_n 2, 1) := by decide +kernel
theorem dX4_rankOf_47 : decode cX4_rankOf 47 = .ok (.ireturn, 1) := by decide +kernel
set_option maxRecDepth 20000 in
theorem ggX4_holds_X4_rankOf : GoodIn wsX4_holds wsX4_rankOf := goodIn_r _ [7, 1, 2, 8, 9, 10, 11, 12, 13, 14, 15] (by decide +kernel) (by decide +kernel)
set_option maxRecDepth 20000 in
theorem gX4_holds_X4_rankOf : GoodIn wsX4_holds (wsV RX4 28 RX4 yX4_rankOf wsX4_rankOf) := goodIn_app (goodIn_of _ (by decide +kernel)) ggX4_holds_X4_rankOf
set_option maxRecDepth 20000 in
theorem ggX4_holds_X6_get : GoodIn wsX4_holds wsX6_get := goodIn_r _ [11, 12, 15] (by decide +kernel) (by decide +kernel)
set_option maxRecDepth 20000 in
theorem gX4_holds_X6_get_n20 : GoodIn wsX4_holds (wsX6_get) := ggX4_holds_X6_get
theorem dX4_holds_0 : decode cX4_holds 0 = .ok (.aload_n 0, 1) := by decide +kernel
theorem dX4_holds_1 : decode cX4_holds 1 = .ok (.iload_n 1, 1) := by decide +kernel
theorem dX4_holds_2 : decode cX4_holds 2 = .ok (.invokevirtual 28, 3) := by decide +kernel
theorem dX4_holds_5 : decode cX4_holds 5 = .ok (.istore_n 2, 1) := by decide +kernel
theorem dX4_holds_6 : decode cX4_holds 6 = .ok (.iload_n 2, 1) := by decide +kernel
theorem dX4_holds_7 : decode cX4_holds 7 = .ok (.aload_n 0, 1) := by decide +kernel
theorem dX4_holds_8 : decode cX4_holds 8 = .ok (.getfield 24, 3) := by decide +kernel
theorem dX4_holds_11 : decode cX4_holds 11 = .ok (.if_icmp .ge 19, 3) := by decide +kernel
theorem dX4_holds_14 : decode cX4_holds 14 = .ok (.aload_n 0, 1) := by decide +kernel
theorem dX4_holds_15 : decode cX4_holds 15 = .ok (.getfield 14, 3) := by decide +kernel
theorem dX4_holds_18 : decode cX4_holds 18 = .ok (.iload_n 2, 1) := by decide +kernel
theorem dX4_holds_19 : decode cX4_holds 19 = .ok (.invokevirtual 20, 3) := by decide +kernel
theorem dX4_holds_22 : decode cX4_holds 22 = .ok (.iload_n 1, 1) := by decide +kernel
theorem dX4_holds_23 : decode cX4_holds 23 = .ok (.if_icmp .ne 7, 3) := by decide +kernel
theorem dX4_holds_26 : decode cX4_holds 26 = .ok (.iconst 1, 1) := by decide +kernel
theorem dX4_holds_27 : decode cX4_holds 27 = .ok (.goto 4, 3) := by decide +kernel
theorem dX4_holds_30 : decode cX4_holds 30 = .ok (.iconst 0, 1) := by decide +kernel
theorem dX4_holds_31 : decode cX4_holds 31 = .ok (.ireturn, 1) := by decide +kernel
set_option maxRecDepth 20000 in
theorem ggX4_insert_X4_rankOf : GoodIn wsX4_insert wsX4_rankOf := goodIn_r _ [7, 1, 2, 8, 9, 10, 11, 12, 16, 17, 18] (by decide +kernel) (by decide +kernel)
set_option maxRecDepth 20000 in
theorem gX4_insert_X4_rankOf : GoodIn wsX4_insert (wsV RX4 28 RX4 yX4_rankOf wsX4_rankOf) := goodIn_app (goodIn_of _ (by decide +kernel)) ggX4_insert_X4_rankOf
set_option maxRecDepth 20000 in
theorem ggX4_insert_X6_get : GoodIn wsX4_insert wsX6_get := goodIn_r _ [11, 12, 18] (by decide +kernel) (by decide +kernel)
set_option maxRecDepth 20000 in
theorem gX4_insert_X6_get_n20 : GoodIn wsX4_insert (wsX6_get) := ggX4_insert_X6_get
set_option maxRecDepth 20000 in
theorem ggX4_insert_X6_set : GoodIn wsX4_insert wsX6_set := goodIn_r _ [15, 12, 18] (by decide +kernel) (by decide +kernel)
set_option maxRecDepth 20000 in
theorem gX4_insert_X6_set_n31 : GoodIn wsX4_insert (wsX6_set) := ggX4_insert_X6_set
theorem dX4_insert_0 : decode cX4_insert 0 = .ok (.aload_n 0, 1) := by decide +kernel
theorem dX4_insert_1 : decode cX4_insert 1 = .ok (.iload_n 1, 1) := by decide +kernel
theorem dX4_insert_2 : decode cX4_insert 2 = .ok (.invokevirtual 28, 3) := by decide +kernel
theorem dX4_insert_5 : decode cX4_insert 5 = .ok (.istore_n 2, 1) := by decide +kernel
theorem dX4_insert_6 : decode cX4_insert 6 = .ok (.aload_n 0, 1) := by decide +kernel
theorem dX4_insert_7 : decode cX4_insert 7 = .ok (.getfield 24, 3) := by decide +kernel
theorem dX4_insert_10 : decode cX4_insert 10 = .ok (.istore_n 3, 1) := by decide +kernel
theorem dX4_insert_11 : decode cX4_insert 11 = .ok (.iload_n 3, 1) := by decide +kernel
theorem dX4_insert_12 : decode cX4_insert 12 = .ok (.iload_n 2, 1) := by decide +kernel
theorem dX4_insert_13 : decode cX4_insert 13 = .ok (.if_icmp .le 27, 3) := by decide +kernel
theorem dX4_insert_16 : decode cX4_insert 16 = .ok (.aload_n 0, 1) := by decide +kernel
theorem dX4_insert_17 : decode cX4_insert 17 = .ok (.getfield 14, 3) := by decide +kernel
theorem dX4_insert_20 : decode cX4_insert 20 = .ok (.iload_n 3, 1) := by decide +kernel
theorem dX4_insert_21 : decode cX4_insert 21 = .ok (.aload_n 0, 1) := by decide +kernel
theorem dX4_insert_22 : decode cX4_insert 22 = .ok (.getfield 14, 3) := by decide +kernel
theorem dX4_insert_25 : decode cX4_insert 25 = .ok (.iload_n 3, 1) := by decide +kernel
theorem dX4_insert_26 : decode cX4_insert 26 = .ok (.iconst 1, 1) := by decide +kernel
theorem dX4_insert_27 : decode cX4_insert 27 = .ok (.isub, 1) := by decide +kernel
theorem dX4_insert_28 : decode cX4_insert 28 = .ok (.invokevirtual 20, 3) := by decide +kernel
theorem dX4_insert_31 : decode cX4_insert 31 = .ok (.invokevirtual 31, 3) := by decide +kernel
theorem dX4_insert_34 : decode cX4_insert 34 = .ok (.iinc 3 (-1), 3) := by decide +kernel
theorem dX4_insert_37 : decode cX4_insert 37 = .ok (.goto (-26), 3) := by decide +kernel
theorem dX4_insert_40 : decode cX4_insert 40 = .ok (.aload_n 0, 1) := by decide +kernel
theorem dX4_insert_41 : decode cX4_insert 41 = .ok (.getfield 14, 3) := by decide +kernel
theorem dX4_insert_44 : decode cX4_insert 44 = .ok (.iload_n 2, 1) := by decide +kernel
theorem dX4_insert_45 : decode cX4_insert 45 = .ok (.iload_n 1, 1) := by decide +kernel
theorem dX4_insert_46 : decode cX4_insert 46 = .ok (.invokevirtual 31, 3) := by decide +kernel
theorem dX4_insert_49 : decode cX4_insert 49 = .ok (.aload_n 0, 1) := by decide +kernel
theorem dX4_insert_50 : decode cX4_insert 50 = .ok (.dup, 1) := by decide +kernel
theorem dX4_insert_51 : decode cX4_insert 51 = .ok (.getfield 24, 3) := by decide +kernel
theorem dX4_insert_54 : decode cX4_insert 54 = .ok (.iconst 1, 1) := by decide +kernel
theorem dX4_insert_55 : decode cX4_insert 55 = .ok (.iadd, 1) := by decide +kernel
theorem dX4_insert_56 : decode cX4_insert 56 = .ok (.putfield 24, 3) := by decide +kernel
theorem dX4_insert_59 : decode cX4_insert 59 = .ok (.return_, 1) := by decide +kernel
set_option maxRecDepth 20000 in
theorem ggX4_delete_X4_rankOf : GoodIn wsX4_delete wsX4_rankOf := goodIn_r _ [7, 1, 2, 8, 9, 10, 11, 12, 16, 17, 18] (by decide +kernel) (by decide +kernel)
set_option maxRecDepth 20000 in
theorem gX4_delete_X4_rankOf : GoodIn wsX4_delete (wsV RX4 28 RX4 yX4_rankOf wsX4_rankOf) := goodIn_app (goodIn_of _ (by decide +kernel)) ggX4_delete_X4_rankOf
set_option maxRecDepth 20000 in
theorem ggX4_delete_X6_get : GoodIn wsX4_delete wsX6_get := goodIn_r _ [11, 12, 18] (by decide +kernel) (by decide +kernel)
set_option maxRecDepth 20000 in
theorem gX4_delete_X6_get_n20 : GoodIn wsX4_delete (wsX6_get) := ggX4_delete_X6_get
set_option maxRecDepth 20000 in
theorem ggX4_delete_X6_set : GoodIn wsX4_delete wsX6_set := goodIn_r _ [15, 12, 18] (by decide +kernel) (by decide +kernel)
set_option maxRecDepth 20000 in
theorem gX4_delete_X6_set_n31 : GoodIn wsX4_delete (wsX6_set) := ggX4_delete_X6_set
theorem dX4_delete_0 : decode cX4_delete 0 = .ok (.aload_n 0, 1) := by decide +kernel
theorem dX4_delete_1 : decode cX4_delete 1 = .ok (.iload_n 1, 1) := by decide +kernel
theorem dX4_delete_2 : decode cX4_delete 2 = .ok (.invokevirtual 28, 3) := by decide +kernel
theorem dX4_delete_5 : decode cX4_delete 5 = .ok (.iconst 1, 1) := by decide +kernel
theorem dX4_delete_6 : decode cX4_delete 6 = .ok (.iadd, 1) := by decide +kernel
theorem dX4_delete_7 : decode cX4_delete 7 = .ok (.istore_n 2, 1) := by decide +kernel
theorem dX4_delete_8 : decode cX4_delete 8 = .ok (.iload_n 2, 1) := by decide +kernel
theorem dX4_delete_9 : decode cX4_delete 9 = .ok (.aload_n 0, 1) := by decide +kernel
theorem dX4_delete_10 : decode cX4_delete 10 = .ok (.getfield 24, 3) := by decide +kernel
theorem dX4_delete_13 : decode cX4_delete 13 = .ok (.if_icmp .ge 27, 3) := by decide +kernel
theorem dX4_delete_16 : decode cX4_delete 16 = .ok (.aload_n 0, 1) := by decide +kernel
theorem dX4_delete_17 : decode cX4_delete 17 = .ok (.getfield 14, 3) := by decide +kernel
theorem dX4_delete_20 : decode cX4_delete 20 = .ok (.iload_n 2, 1) := by decide +kernel
theorem dX4_delete_21 : decode cX4_delete 21 = .ok (.iconst 1, 1) := by decide +kernel
theorem dX4_delete_22 : decode cX4_delete 22 = .ok (.isub, 1) := by decide +kernel
theorem dX4_delete_23 : decode cX4_delete 23 = .ok (.aload_n 0, 1) := by decide +kernel
theorem dX4_delete_24 : decode cX4_delete 24 = .ok (.getfield 14, 3) := by decide +kernel
theorem dX4_delete_27 : decode cX4_delete 27 = .ok (.iload_n 2, 1) := by decide +kernel
theorem dX4_delete_28 : decode cX4_delete 28 = .ok (.invokevirtual 20, 3) := by decide +kernel
theorem dX4_delete_31 : decode cX4_delete 31 = .ok (.invokevirtual 31, 3) := by decide +kernel
theorem dX4_delete_34 : decode cX4_delete 34 = .ok (.iinc 2 1, 3) := by decide +kernel
theorem dX4_delete_37 : decode cX4_delete 37 = .ok (.goto (-29), 3) := by decide +kernel
theorem dX4_delete_40 : decode cX4_delete 40 = .ok (.aload_n 0, 1) := by decide +kernel
theorem dX4_delete_41 : decode cX4_delete 41 = .ok (.dup, 1) := by decide +kernel
theorem dX4_delete_42 : decode cX4_delete 42 = .ok (.getfield 24, 3) := by decide +kernel
theorem dX4_delete_45 : decode cX4_delete 45 = .ok (.iconst 1, 1) := by decide +kernel
theorem dX4_delete_46 : decode cX4_delete 46 = .ok (.isub, 1) := by decide +kernel
theorem dX4_delete_47 : decode cX4_delete 47 = .ok (.putfield 24, 3) := by decide +kernel
theorem dX4_delete_50 : decode cX4_delete 50 = .ok (.return_, 1) := by decide +kernel
theorem dX5_init_0 : decode cX5_init 0 = .ok (.aload_n 0, 1) := by decide +kernel
theorem dX5_init_1 : decode cX5_init 1 = .ok (.invokespecial 3, 3) := by decide +kernel
theorem dX5_init_4 : decode cX5_init 4 = .ok (.aload_n 0, 1) := by decide +kernel
theorem dX5_init_5 : decode cX5_init 5 = .ok (.bipush 17, 2) := by decide +kernel
theorem dX5_init_7 : decode cX5_init 7 = .ok (.newarray .long, 2) := by decide +kernel
theorem dX5_init_9 : decode cX5_init 9 = .ok (.putfield 9, 3) := by decide +kernel
theorem dX5_init_12 : decode cX5_init 12 = .ok (.return_, 1) := by decide +kernel
set_option maxRecDepth 20000 in
theorem ggX5_pack_J7_fill_d0a16 : GoodIn wsX5_pack wsJ7_fill_d0a16 := goodIn_r _ [7] (by decide +kernel) (by decide +kernel)
set_option maxRecDepth 20000 in
theorem gX5_pack_J7_fill_d0a16 : GoodIn wsX5_pack (va_wsS RX5 15 yJ7_fill_d0a16 wsJ7_fill_d0a16) := goodIn_app (goodIn_of _ (by decide +kernel)) ggX5_pack_J7_fill_d0a16
set_option maxRecDepth 20000 in
theorem ggX5_pack_X5_greatest : GoodIn wsX5_pack wsX5_greatest := goodIn_r _ [11, 12, 13, 14, 15, 16, 17, 18, 19, 20, 38] (by decide +kernel) (by decide +kernel)
set_option maxRecDepth 20000 in
theorem gX5_pack_X5_greatest : GoodIn wsX5_pack (va_wsS RX5 21 yX5_greatest wsX5_greatest) := goodIn_app (goodIn_of _ (by decide +kernel)) ggX5_pack_X5_greatest
set_option maxRecDepth 20000 in
theorem ggX5_pack_X5_widthFor : GoodIn wsX5_pack wsX5_widthFor := goodIn_r _ [23] (by decide +kernel) (by decide +kernel)
set_option maxRecDepth 20000 in
theorem gX5_pack_X5_widthFor : GoodIn wsX5_pack (va_wsS RX5 25 yX5_widthFor wsX5_widthFor) := goodIn_app (goodIn_of _ (by decide +kernel)) ggX5_pack_X5_widthFor
set_option maxRecDepth 20000 in
theorem ggX5_pack_X7_dividedUp : GoodIn wsX5_pack wsX7_dividedUp := goodIn_r _ [26] (by decide +kernel) (by decide +kernel)
set_option maxRecDepth 20000 in
theorem gX5_pack_X7_dividedUp_n33 : GoodIn wsX5_pack (wsX7_dividedUp) := ggX5_pack_X7_dividedUp
set_option maxRecDepth 20000 in
theorem ggX5_pack_X6_get : GoodIn wsX5_pack wsX6_get := goodIn_r _ [19, 20, 38] (by decide +kernel) (by decide +kernel)
set_option maxRecDepth 20000 in
theorem gX5_pack_X6_get_n40 : GoodIn wsX5_pack (wsX6_get) := ggX5_pack_X6_get
set_option maxRecDepth 20000 in
theorem ggX5_pack_X5_write : GoodIn wsX5_pack wsX5_write := goodIn_r _ [30, 2, 31, 32, 33, 10, 34, 1, 35, 36, 37] (by decide +kernel) (by decide +kernel)
set_option maxRecDepth 20000 in
theorem gX5_pack_X5_write : GoodIn wsX5_pack (wsV RX5 45 RX5 yX5_write wsX5_write) := goodIn_app (goodIn_of _ (by decide +kernel)) ggX5_pack_X5_write
theorem dX5_pack_0 : decode cX5_pack 0 = .ok (.aload_n 0, 1) := by decide +kernel
theorem dX5_pack_1 : decode cX5_pack 1 = .ok (.getfield 9, 3) := by decide +kernel
theorem dX5_pack_4 : decode cX5_pack 4 = .ok (.lconst 0, 1) := by decide +kernel
theorem dX5_pack_5 : decode cX5_pack 5 = .ok (.invokestatic 15, 3) := by decide +kernel
theorem dX5_pack_8 : decode cX5_pack 8 = .ok (.aload_n 0, 1) := by decide +kernel
theorem dX5_pack_9 : decode cX5_pack 9 = .ok (.aload_n 1, 1) := by decide +kernel
theorem dX5_pack_10 : decode cX5_pack 10 = .ok (.iload_n 2, 1) := by decide +kernel
theorem dX5_pack_11 : decode cX5_pack 11 = .ok (.invokestatic 21, 3) := by decide +kernel
theorem dX5_pack_14 : decode cX5_pack 14 = .ok (.invokestatic 25, 3) := by decide +kernel
theorem dX5_pack_17 : decode cX5_pack 17 = .ok (.putfield 29, 3) := by decide +kernel
theorem dX5_pack_20 : decode cX5_pack 20 = .ok (.aload_n 0, 1) := by decide +kernel
theorem dX5_pack_21 : decode cX5_pack 21 = .ok (.iload_n 2, 1) := by decide +kernel
theorem dX5_pack_22 : decode cX5_pack 22 = .ok (.aload_n 0, 1) := by decide +kernel
theorem dX5_pack_23 : decode cX5_pack 23 = .ok (.getfield 29, 3) := by decide +kernel
theorem dX5_pack_26 : decode cX5_pack 26 = .ok (.imul, 1) := by decide +kernel
theorem dX5_pack_27 : decode cX5_pack 27 = .ok (.bipush 64, 2) := by decide +kernel
theorem dX5_pack_29 : decode cX5_pack 29 = .ok (.invokestatic 33, 3) := by decide +kernel
theorem dX5_pack_32 : decode cX5_pack 32 = .ok (.putfield 37, 3) := by decide +kernel
theorem dX5_pack_35 : decode cX5_pack 35 = .ok (.iconst 0, 1) := by decide +kernel
theorem dX5_pack_36 : decode cX5_pack 36 = .ok (.istore_n 3, 1) := by decide +kernel
theorem dX5_pack_37 : decode cX5_pack 37 = .ok (.iload_n 3, 1) := by decide +kernel
theorem dX5_pack_38 : decode cX5_pack 38 = .ok (.iload_n 2, 1) := by decide +kernel
theorem dX5_pack_39 : decode cX5_pack 39 = .ok (.if_icmp .ge 25, 3) := by decide +kernel
theorem dX5_pack_42 : decode cX5_pack 42 = .ok (.aload_n 0, 1) := by decide +kernel
theorem dX5_pack_43 : decode cX5_pack 43 = .ok (.iload_n 3, 1) := by decide +kernel
theorem dX5_pack_44 : decode cX5_pack 44 = .ok (.aload_n 0, 1) := by decide +kernel
theorem dX5_pack_45 : decode cX5_pack 45 = .ok (.getfield 29, 3) := by decide +kernel
theorem dX5_pack_48 : decode cX5_pack 48 = .ok (.imul, 1) := by decide +kernel
theorem dX5_pack_49 : decode cX5_pack 49 = .ok (.aload_n 1, 1) := by decide +kernel
theorem dX5_pack_50 : decode cX5_pack 50 = .ok (.iload_n 3, 1) := by decide +kernel
theorem dX5_pack_51 : decode cX5_pack 51 = .ok (.invokevirtual 40, 3) := by decide +kernel
theorem dX5_pack_54 : decode cX5_pack 54 = .ok (.i2l, 1) := by decide +kernel
theorem dX5_pack_55 : decode cX5_pack 55 = .ok (.invokevirtual 45, 3) := by decide +kernel
theorem dX5_pack_58 : decode cX5_pack 58 = .ok (.iinc 3 1, 3) := by decide +kernel
theorem dX5_pack_61 : decode cX5_pack 61 = .ok (.goto (-24), 3) := by decide +kernel
theorem dX5_pack_64 : decode cX5_pack 64 = .ok (.return_, 1) := by decide +kernel
set_option maxRecDepth 20000 in
theorem ggX5_greatest_X6_get : GoodIn wsX5_greatest wsX6_get := goodIn_r _ [8, 9, 10] (by decide +kernel) (by decide +kernel)
set_option maxRecDepth 20000 in
theorem gX5_greatest_X6_get_n40 : GoodIn wsX5_greatest (wsX6_get) := ggX5_greatest_X6_get
theorem dX5_greatest_0 : decode cX5_greatest 0 = .ok (.iconst 0, 1) := by decide +kernel
theorem dX5_greatest_1 : decode cX5_greatest 1 = .ok (.istore_n 2, 1) := by decide +kernel
theorem dX5_greatest_2 : decode cX5_greatest 2 = .ok (.iconst 0, 1) := by decide +kernel
theorem dX5_greatest_3 : decode cX5_greatest 3 = .ok (.istore_n 3, 1) := by decide +kernel
theorem dX5_greatest_4 : decode cX5_greatest 4 = .ok (.iload_n 3, 1) := by decide +kernel
theorem dX5_greatest_5 : decode cX5_greatest 5 = .ok (.iload_n 1, 1) := by decide +kernel
theorem dX5_greatest_6 : decode cX5_greatest 6 = .ok (.if_icmp .ge 19, 3) := by decide +kernel
theorem dX5_greatest_9 : decode cX5_greatest 9 = .ok (.iload_n 2, 1) := by decide +kernel
theorem dX5_greatest_10 : decode cX5_greatest 10 = .ok (.aload_n 0, 1) := by decide +kernel
theorem dX5_greatest_11 : decode cX5_greatest 11 = .ok (.iload_n 3, 1) := by decide +kernel
theorem dX5_greatest_12 : decode cX5_greatest 12 = .ok (.invokevirtual 40, 3) := by decide +kernel
theorem dX5_greatest_15 : decode cX5_greatest 15 = .ok (.invokestatic 49, 3) := by decide +kernel
theorem dX5_greatest_18 : decode cX5_greatest 18 = .ok (.istore_n 2, 1) := by decide +kernel
theorem dX5_greatest_19 : decode cX5_greatest 19 = .ok (.iinc 3 1, 3) := by decide +kernel
theorem dX5_greatest_22 : decode cX5_greatest 22 = .ok (.goto (-18), 3) := by decide +kernel
theorem dX5_greatest_25 : decode cX5_greatest 25 = .ok (.iload_n 2, 1) := by decide +kernel
theorem dX5_greatest_26 : decode cX5_greatest 26 = .ok (.ireturn, 1) := by decide +kernel
theorem dX5_widthFor_0 : decode cX5_widthFor 0 = .ok (.iconst 1, 1) := by decide +kernel
theorem dX5_widthFor_1 : decode cX5_widthFor 1 = .ok (.istore_n 1, 1) := by decide +kernel
theorem dX5_widthFor_2 : decode cX5_widthFor 2 = .ok (.iload_n 1, 1) := by decide +kernel
theorem dX5_widthFor_3 : decode cX5_widthFor 3 = .ok (.bipush 9, 2) := by decide +kernel
theorem dX5_widthFor_5 : decode cX5_widthFor 5 = .ok (.if_icmp .ge 15, 3) := by decide +kernel
theorem dX5_widthFor_8 : decode cX5_widthFor 8 = .ok (.iload_n 0, 1) := by decide +kernel
theorem dX5_widthFor_9 : decode cX5_widthFor 9 = .ok (.iload_n 1, 1) := by decide +kernel
theorem dX5_widthFor_10 : decode cX5_widthFor 10 = .ok (.ishr, 1) := by decide +kernel
theorem dX5_widthFor_11 : decode cX5_widthFor 11 = .ok (.ifCond .le 9, 3) := by decide +kernel
theorem dX5_widthFor_14 : decode cX5_widthFor 14 = .ok (.iinc 1 1, 3) := by decide +kernel
theorem dX5_widthFor_17 : decode cX5_widthFor 17 = .ok (.goto (-15), 3) := by decide +kernel
theorem dX5_widthFor_20 : decode cX5_widthFor 20 = .ok (.iload_n 1, 1) := by decide +kernel
theorem dX5_widthFor_21 : decode cX5_widthFor 21 = .ok (.ireturn, 1) := by decide +kernel
set_option maxRecDepth 20000 in
theorem ggX5_write_X5_join : GoodIn wsX5_write wsX5_join := goodIn_r _ [6, 7, 8, 9, 10] (by decide +kernel) (by decide +kernel)
set_option maxRecDepth 20000 in
theorem gX5_write_X5_join : GoodIn wsX5_write (wsV RX5 54 RX5 yX5_join wsX5_join) := goodIn_app (goodIn_of _ (by decide +kernel)) ggX5_write_X5_join
theorem dX5_write_0 : decode cX5_write 0 = .ok (.iload_n 1, 1) := by decide +kernel
theorem dX5_write_1 : decode cX5_write 1 = .ok (.bipush 64, 2) := by decide +kernel
theorem dX5_write_3 : decode cX5_write 3 = .ok (.idiv, 1) := by decide +kernel
theorem dX5_write_4 : decode cX5_write 4 = .ok (.istore 4, 2) := by decide +kernel
theorem dX5_write_6 : decode cX5_write 6 = .ok (.iload_n 1, 1) := by decide +kernel
theorem dX5_write_7 : decode cX5_write 7 = .ok (.bipush 64, 2) := by decide +kernel
theorem dX5_write_9 : decode cX5_write 9 = .ok (.irem, 1) := by decide +kernel
theorem dX5_write_10 : decode cX5_write 10 = .ok (.istore 5, 2) := by decide +kernel
theorem dX5_write_12 : decode cX5_write 12 = .ok (.aload_n 0, 1) := by decide +kernel
theorem dX5_write_13 : decode cX5_write 13 = .ok (.iload 4, 2) := by decide +kernel
theorem dX5_write_15 : decode cX5_write 15 = .ok (.lload_n 2, 1) := by decide +kernel
theorem dX5_write_16 : decode cX5_write 16 = .ok (.iload 5, 2) := by decide +kernel
theorem dX5_write_18 : decode cX5_write 18 = .ok (.lshl, 1) := by decide +kernel
theorem dX5_write_19 : decode cX5_write 19 = .ok (.invokevirtual 54, 3) := by decide +kernel
theorem dX5_write_22 : decode cX5_write 22 = .ok (.iload 5, 2) := by decide +kernel
theorem dX5_write_24 : decode cX5_write 24 = .ok (.aload_n 0, 1) := by decide +kernel
theorem dX5_write_25 : decode cX5_write 25 = .ok (.getfield 29, 3) := by decide +kernel
theorem dX5_write_28 : decode cX5_write 28 = .ok (.iadd, 1) := by decide +kernel
theorem dX5_write_29 : decode cX5_write 29 = .ok (.bipush 64, 2) := by decide +kernel
theorem dX5_write_31 : decode cX5_write 31 = .ok (.if_icmp .le 18, 3) := by decide +kernel
theorem dX5_write_34 : decode cX5_write 34 = .ok (.aload_n 0, 1) := by decide +kernel
theorem dX5_write_35 : decode cX5_write 35 = .ok (.iload 4, 2) := by decide +kernel
theorem dX5_write_37 : decode cX5_write 37 = .ok (.iconst 1, 1) := by decide +kernel
theorem dX5_write_38 : decode cX5_write 38 = .ok (.iadd, 1) := by decide +kernel
theorem dX5_write_39 : decode cX5_write 39 = .ok (.lload_n 2, 1) := by decide +kernel
theorem dX5_write_40 : decode cX5_write 40 = .ok (.bipush 64, 2) := by decide +kernel
theorem dX5_write_42 : decode cX5_write 42 = .ok (.iload 5, 2) := by decide +kernel
theorem dX5_write_44 : decode cX5_write 44 = .ok (.isub, 1) := by decide +kernel
theorem dX5_write_45 : decode cX5_write 45 = .ok (.lushr, 1) := by decide +kernel
theorem dX5_write_46 : decode cX5_write 46 = .ok (.invokevirtual 54, 3) := by decide +kernel
theorem dX5_write_49 : decode cX5_write 49 = .ok (.return_, 1) := by decide +kernel
theorem dX5_join_0 : decode cX5_join 0 = .ok (.iload_n 1, 1) := by decide +kernel
theorem dX5_join_1 : decode cX5_join 1 = .ok (.ifCond .lt 22, 3) := by decide +kernel
theorem dX5_join_4 : decode cX5_join 4 = .ok (.iload_n 1, 1) := by decide +kernel
theorem dX5_join_5 : decode cX5_join 5 = .ok (.aload_n 0, 1) := by decide +kernel
theorem dX5_join_6 : decode cX5_join 6 = .ok (.getfield 9, 3) := by decide +kernel
theorem dX5_join_9 : decode cX5_join 9 = .ok (.arraylength, 1) := by decide +kernel
theorem dX5_join_10 : decode cX5_join 10 = .ok (.if_icmp .ge 13, 3) := by decide +kernel
theorem dX5_join_13 : decode cX5_join 13 = .ok (.aload_n 0, 1) := by decide +kernel
theorem dX5_join_14 : decode cX5_join 14 = .ok (.getfield 9, 3) := by decide +kernel
theorem dX5_join_17 : decode cX5_join 17 = .ok (.iload_n 1, 1) := by decide +kernel
theorem dX5_join_18 : decode cX5_join 18 = .ok (.dup2, 1) := by decide +kernel
theorem dX5_join_19 : decode cX5_join 19 = .ok (.laload, 1) := by decide +kernel
theorem dX5_join_20 : decode cX5_join 20 = .ok (.lload_n 2, 1) := by decide +kernel
theorem dX5_join_21 : decode cX5_join 21 = .ok (.lor, 1) := by decide +kernel
theorem dX5_join_22 : decode cX5_join 22 = .ok (.lastore, 1) := by decide +kernel
theorem dX5_join_23 : decode cX5_join 23 = .ok (.return_, 1) := by decide +kernel
theorem dX5_wordAt_0 : decode cX5_wordAt 0 = .ok (.iload_n 1, 1) := by decide +kernel
theorem dX5_wordAt_1 : decode cX5_wordAt 1 = .ok (.ifCond .lt 21, 3) := by decide +kernel
theorem dX5_wordAt_4 : decode cX5_wordAt 4 = .ok (.iload_n 1, 1) := by decide +kernel
theorem dX5_wordAt_5 : decode cX5_wordAt 5 = .ok (.aload_n 0, 1) := by decide +kernel
theorem dX5_wordAt_6 : decode cX5_wordAt 6 = .ok (.getfield 9, 3) := by decide +kernel
theorem dX5_wordAt_9 : decode cX5_wordAt 9 = .ok (.arraylength, 1) := by decide +kernel
theorem dX5_wordAt_10 : decode cX5_wordAt 10 = .ok (.if_icmp .ge 12, 3) := by decide +kernel
theorem dX5_wordAt_13 : decode cX5_wordAt 13 = .ok (.aload_n 0, 1) := by decide +kernel
theorem dX5_wordAt_14 : decode cX5_wordAt 14 = .ok (.getfield 9, 3) := by decide +kernel
theorem dX5_wordAt_17 : decode cX5_wordAt 17 = .ok (.iload_n 1, 1) := by decide +kernel
theorem dX5_wordAt_18 : decode cX5_wordAt 18 = .ok (.laload, 1) := by decide +kernel
theorem dX5_wordAt_19 : decode cX5_wordAt 19 = .ok (.goto 4, 3) := by decide +kernel
theorem dX5_wordAt_22 : decode cX5_wordAt 22 = .ok (.lconst 0, 1) := by decide +kernel
theorem dX5_wordAt_23 : decode cX5_wordAt 23 = .ok (.lreturn, 1) := by decide +kernel
theorem dX6_init_0 : decode cX6_init 0 = .ok (.aload_n 0, 1) := by decide +kernel
theorem dX6_init_1 : decode cX6_init 1 = .ok (.invokespecial 1, 3) := by decide +kernel
theorem dX6_init_4 : decode cX6_init 4 = .ok (.aload_n 0, 1) := by decide +kernel
theorem dX6_init_5 : decode cX6_init 5 = .ok (.iload_n 1, 1) := by decide +kernel
theorem dX6_init_6 : decode cX6_init 6 = .ok (.iconst 0, 1) := by decide +kernel
theorem dX6_init_7 : decode cX6_init 7 = .ok (.invokestatic 7, 3) := by decide +kernel
theorem dX6_init_10 : decode cX6_init 10 = .ok (.newarray .int, 2) := by decide +kernel
theorem dX6_init_12 : decode cX6_init 12 = .ok (.putfield 13, 3) := by decide +kernel
theorem dX6_init_15 : decode cX6_init 15 = .ok (.return_, 1) := by decide +kernel
theorem dX6_get_0 : decode cX6_get 0 = .ok (.iload_n 1, 1) := by decide +kernel
theorem dX6_get_1 : decode cX6_get 1 = .ok (.ifCond .lt 21, 3) := by decide +kernel
theorem dX6_get_4 : decode cX6_get 4 = .ok (.iload_n 1, 1) := by decide +kernel
theorem dX6_get_5 : decode cX6_get 5 = .ok (.aload_n 0, 1) := by decide +kernel
theorem dX6_get_6 : decode cX6_get 6 = .ok (.getfield 13, 3) := by decide +kernel
theorem dX6_get_9 : decode cX6_get 9 = .ok (.arraylength, 1) := by decide +kernel
theorem dX6_get_10 : decode cX6_get 10 = .ok (.if_icmp .ge 12, 3) := by decide +kernel
theorem dX6_get_13 : decode cX6_get 13 = .ok (.aload_n 0, 1) := by decide +kernel
theorem dX6_get_14 : decode cX6_get 14 = .ok (.getfield 13, 3) := by decide +kernel
theorem dX6_get_17 : decode cX6_get 17 = .ok (.iload_n 1, 1) := by decide +kernel
theorem dX6_get_18 : decode cX6_get 18 = .ok (.iaload, 1) := by decide +kernel
theorem dX6_get_19 : decode cX6_get 19 = .ok (.goto 4, 3) := by decide +kernel
theorem dX6_get_22 : decode cX6_get 22 = .ok (.iconst 0, 1) := by decide +kernel
theorem dX6_get_23 : decode cX6_get 23 = .ok (.ireturn, 1) := by decide +kernel
theorem dX6_set_0 : decode cX6_set 0 = .ok (.iload_n 1, 1) := by decide +kernel
theorem dX6_set_1 : decode cX6_set 1 = .ok (.ifCond .lt 19, 3) := by decide +kernel
theorem dX6_set_4 : decode cX6_set 4 = .ok (.iload_n 1, 1) := by decide +kernel
theorem dX6_set_5 : decode cX6_set 5 = .ok (.aload_n 0, 1) := by decide +kernel
theorem dX6_set_6 : decode cX6_set 6 = .ok (.getfield 13, 3) := by decide +kernel
theorem dX6_set_9 : decode cX6_set 9 = .ok (.arraylength, 1) := by decide +kernel
theorem dX6_set_10 : decode cX6_set 10 = .ok (.if_icmp .ge 10, 3) := by decide +kernel
theorem dX6_set_13 : decode cX6_set 13 = .ok (.aload_n 0, 1) := by decide +kernel
theorem dX6_set_14 : decode cX6_set 14 = .ok (.getfield 13, 3) := by decide +kernel
theorem dX6_set_17 : decode cX6_set 17 = .ok (.iload_n 1, 1) := by decide +kernel
theorem dX6_set_18 : decode cX6_set 18 = .ok (.iload_n 2, 1) := by decide +kernel
theorem dX6_set_19 : decode cX6_set 19 = .ok (.iastore, 1) := by decide +kernel
theorem dX6_set_20 : decode cX6_set 20 = .ok (.return_, 1) := by decide +kernel
set_option maxRecDepth 20000 in
theorem ggX6_fill_J7_fill_53178 : GoodIn wsX6_fill wsJ7_fill_53178 := goodIn_r _ [5] (by decide +kernel) (by decide +kernel)
set_option maxRecDepth 20000 in
theorem gX6_fill_J7_fill_53178 : GoodIn wsX6_fill (va_wsS RX6 19 yJ7_fill_53178 wsJ7_fill_53178) := goodIn_app (goodIn_of _ (by decide +kernel)) ggX6_fill_J7_fill_53178
theorem dX6_fill_0 : decode cX6_fill 0 = .ok (.aload_n 0, 1) := by decide +kernel
theorem dX6_fill_1 : decode cX6_fill 1 = .ok (.getfield 13, 3) := by decide +kernel
theorem dX6_fill_4 : decode cX6_fill 4 = .ok (.iload_n 1, 1) := by decide +kernel
theorem dX6_fill_5 : decode cX6_fill 5 = .ok (.invokestatic 19, 3) := by decide +kernel
theorem dX6_fill_8 : decode cX6_fill 8 = .ok (.return_, 1) := by decide +kernel
set_option maxRecDepth 20000 in
theorem ggX7_init_X4_init : GoodIn wsX7_init wsX4_init := goodIn_r _ [25, 26, 2, 3, 27, 21, 22, 28, 29, 30, 31, 32, 33, 34, 35, 36, 37, 101, 72, 73] (by decide +kernel) (by decide +kernel)
set_option maxRecDepth 20000 in
theorem gX7_init_X4_init_n9 : GoodIn wsX7_init (wsX4_init) := ggX7_init_X4_init
set_option maxRecDepth 20000 in
theorem ggX7_init_X0_init : GoodIn wsX7_init wsX0_init := goodIn_r _ [39, 40, 2, 3, 41, 42, 43, 44, 45, 21, 22, 46, 47, 48, 49, 50, 51, 52, 53, 54, 55, 56, 57, 29, 30, 31, 32, 33, 34, 35, 36, 37, 102, 103, 104, 105, 106, 81, 82, 83, 84, 85, 86, 87, 88, 89, 101] (by decide +kernel) (by decide +kernel)
set_option maxRecDepth 20000 in
theorem gX7_init_X0_init_n18 : GoodIn wsX7_init (wsX0_init) := ggX7_init_X0_init
set_option maxRecDepth 20000 in
theorem ggX7_init_X5_init : GoodIn wsX7_init wsX5_init := goodIn_r _ [59, 60, 2, 3, 61, 62, 90, 91, 92] (by decide +kernel) (by decide +kernel)
set_option maxRecDepth 20000 in
theorem gX7_init_X5_init_n25 : GoodIn wsX7_init (wsX5_init) := ggX7_init_X5_init
set_option maxRecDepth 20000 in
theorem ggX7_init_X1_init : GoodIn wsX7_init wsX1_init := goodIn_r _ [64, 65, 2, 3, 66, 42, 43, 67, 68, 21, 22, 69, 70, 71, 51, 52, 53, 54, 55, 56, 57, 29, 30, 31, 32, 33, 34, 35, 36, 37, 102, 103, 104, 105, 106, 93, 94, 95, 96, 97, 98, 99, 100, 101] (by decide +kernel) (by decide +kernel)
set_option maxRecDepth 20000 in
theorem gX7_init_X1_init_n32 : GoodIn wsX7_init (wsX1_init) := ggX7_init_X1_init
set_option maxRecDepth 20000 in
theorem ggX7_init_X6_init : GoodIn wsX7_init wsX6_init := goodIn_r _ [30, 31, 2, 3, 32, 33, 34, 35, 36, 37, 101] (by decide +kernel) (by decide +kernel)
set_option maxRecDepth 20000 in
theorem gX7_init_X6_init_n39 : GoodIn wsX7_init (wsX6_init) := ggX7_init_X6_init
theorem dX7_init_0 : decode cX7_init 0 = .ok (.aload_n 0, 1) := by decide +kernel
theorem dX7_init_1 : decode cX7_init 1 = .ok (.invokespecial 1, 3) := by decide +kernel
theorem dX7_init_4 : decode cX7_init 4 = .ok (.aload_n 0, 1) := by decide +kernel
theorem dX7_init_5 : decode cX7_init 5 = .ok (.new 7, 3) := by decide +kernel
theorem dX7_init_8 : decode cX7_init 8 = .ok (.dup, 1) := by decide +kernel
theorem dX7_init_9 : decode cX7_init 9 = .ok (.invokespecial 9, 3) := by decide +kernel
theorem dX7_init_12 : decode cX7_init 12 = .ok (.putfield 10, 3) := by decide +kernel
theorem dX7_init_15 : decode cX7_init 15 = .ok (.aload_n 0, 1) := by decide +kernel
theorem dX7_init_16 : decode cX7_init 16 = .ok (.new 16, 3) := by decide +kernel
theorem dX7_init_19 : decode cX7_init 19 = .ok (.dup, 1) := by decide +kernel
theorem dX7_init_20 : decode cX7_init 20 = .ok (.invokespecial 18, 3) := by decide +kernel
theorem dX7_init_23 : decode cX7_init 23 = .ok (.putfield 19, 3) := by decide +kernel
theorem dX7_init_26 : decode cX7_init 26 = .ok (.aload_n 0, 1) := by decide +kernel
theorem dX7_init_27 : decode cX7_init 27 = .ok (.new 23, 3) := by decide +kernel
theorem dX7_init_30 : decode cX7_init 30 = .ok (.dup, 1) := by decide +kernel
theorem dX7_init_31 : decode cX7_init 31 = .ok (.invokespecial 25, 3) := by decide +kernel
theorem dX7_init_34 : decode cX7_init 34 = .ok (.putfield 26, 3) := by decide +kernel
theorem dX7_init_37 : decode cX7_init 37 = .ok (.aload_n 0, 1) := by decide +kernel
theorem dX7_init_38 : decode cX7_init 38 = .ok (.new 30, 3) := by decide +kernel
theorem dX7_init_41 : decode cX7_init 41 = .ok (.dup, 1) := by decide +kernel
theorem dX7_init_42 : decode cX7_init 42 = .ok (.invokespecial 32, 3) := by decide +kernel
theorem dX7_init_45 : decode cX7_init 45 = .ok (.putfield 33, 3) := by decide +kernel
theorem dX7_init_48 : decode cX7_init 48 = .ok (.aload_n 0, 1) := by decide +kernel
theorem dX7_init_49 : decode cX7_init 49 = .ok (.new 37, 3) := by decide +kernel
theorem dX7_init_52 : decode cX7_init 52 = .ok (.dup, 1) := by decide +kernel
theorem dX7_init_53 : decode cX7_init 53 = .ok (.bipush 120, 2) := by decide +kernel
theorem dX7_init_55 : decode cX7_init 55 = .ok (.invokespecial 39, 3) := by decide +kernel
theorem dX7_init_58 : decode cX7_init 58 = .ok (.putfield 42, 3) := by decide +kernel
theorem dX7_init_61 : decode cX7_init 61 = .ok (.return_, 1) := by decide +kernel
set_option maxRecDepth 20000 in
theorem ggX7_add_X7_requireKey : GoodIn wsX7_add wsX7_requireKey := goodIn_ca (goodIn_r _ [7, 8, 9, 10] (by decide +kernel) (by decide +kernel)) (goodIn_sub (fun _ h => List.mem_cons_of_mem _ (List.mem_append_right _ h)) (by decide +kernel))
set_option maxRecDepth 20000 in
theorem gX7_add_X7_requireKey : GoodIn wsX7_add (va_wsS RX7 46 yX7_requireKey wsX7_requireKey) := goodIn_app (goodIn_of _ (by decide +kernel)) ggX7_add_X7_requireKey
set_option maxRecDepth 20000 in
theorem ggX7_add_X7_requireOpen : GoodIn wsX7_add wsX7_requireOpen := goodIn_ca (goodIn_r _ [14, 1, 2, 15, 41, 42, 43, 44, 45, 46, 47] (by decide +kernel) (by decide +kernel)) (goodIn_sub (fun _ h => List.mem_cons_of_mem _ (List.mem_append_left _ (List.mem_append_right _ h))) (by decide +kernel))
set_option maxRecDepth 20000 in
theorem gX7_add_X7_requireOpen : GoodIn wsX7_add (wsV RX7 49 RX7 yX7_requireOpen wsX7_requireOpen) := goodIn_app (goodIn_of _ (by decide +kernel)) ggX7_add_X7_requireOpen
set_option maxRecDepth 20000 in
theorem ggX7_add_X4_holds : GoodIn wsX7_add wsX4_holds := goodIn_r _ [19, 20, 21, 22, 23, 24, 17, 25, 26, 27, 28, 29, 30, 48, 49, 50] (by decide +kernel) (by decide +kernel)
set_option maxRecDepth 20000 in
theorem gX7_add_X4_holds_n52 : GoodIn wsX7_add (wsX4_holds) := ggX7_add_X4_holds
set_option maxRecDepth 20000 in
theorem ggX7_add_X7_requireRoomFor : GoodIn wsX7_add wsX7_requireRoomFor := goodIn_ca (goodIn_r _ [34, 1, 2, 3, 41, 42, 43, 44, 45, 46, 47, 48, 49] (by decide +kernel) (by decide +kernel)) (goodIn_sub (fun _ h => List.mem_cons_of_mem _ (List.mem_append_left _ (List.mem_append_right _ h))) (by decide +kernel))
set_option maxRecDepth 20000 in
theorem gX7_add_X7_requireRoomFor : GoodIn wsX7_add (wsV RX7 63 RX7 yX7_requireRoomFor wsX7_requireRoomFor) := goodIn_app (goodIn_of _ (by decide +kernel)) ggX7_add_X7_requireRoomFor
set_option maxRecDepth 20000 in
theorem ggX7_add_X4_insert : GoodIn wsX7_add wsX4_insert := goodIn_r _ [37, 20, 21, 22, 23, 24, 17, 25, 26, 27, 28, 29, 30, 38, 39, 40, 48, 49, 50] (by decide +kernel) (by decide +kernel)
set_option maxRecDepth 20000 in
theorem gX7_add_X4_insert_n66 : GoodIn wsX7_add (wsX4_insert) := ggX7_add_X4_insert
theorem dX7_add_0 : decode cX7_add 0 = .ok (.iload_n 1, 1) := by decide +kernel
theorem dX7_add_1 : decode cX7_add 1 = .ok (.invokestatic 46, 3) := by decide +kernel
theorem dX7_add_4 : decode cX7_add 4 = .ok (.aload_n 0, 1) := by decide +kernel
theorem dX7_add_5 : decode cX7_add 5 = .ok (.invokevirtual 49, 3) := by decide +kernel
theorem dX7_add_8 : decode cX7_add 8 = .ok (.aload_n 0, 1) := by decide +kernel
theorem dX7_add_9 : decode cX7_add 9 = .ok (.getfield 10, 3) := by decide +kernel
theorem dX7_add_12 : decode cX7_add 12 = .ok (.iload_n 1, 1) := by decide +kernel
theorem dX7_add_13 : decode cX7_add 13 = .ok (.invokevirtual 52, 3) := by decide +kernel
theorem dX7_add_16 : decode cX7_add 16 = .ok (.ifCond .eq 13, 3) := by decide +kernel
theorem dX7_add_19 : decode cX7_add 19 = .ok (.new 56, 3) := by decide +kernel
theorem dX7_add_22 : decode cX7_add 22 = .ok (.dup, 1) := by decide +kernel
theorem dX7_add_23 : decode cX7_add 23 = .ok (.ldc 58, 2) := by decide +kernel
theorem dX7_add_25 : decode cX7_add 25 = .ok (.invokespecial 60, 3) := by decide +kernel
theorem dX7_add_28 : decode cX7_add 28 = .ok (.athrow, 1) := by decide +kernel
theorem dX7_add_29 : decode cX7_add 29 = .ok (.aload_n 0, 1) := by decide +kernel
theorem dX7_add_30 : decode cX7_add 30 = .ok (.iconst 1, 1) := by decide +kernel
theorem dX7_add_31 : decode cX7_add 31 = .ok (.invokevirtual 63, 3) := by decide +kernel
theorem dX7_add_34 : decode cX7_add 34 = .ok (.aload_n 0, 1) := by decide +kernel
theorem dX7_add_35 : decode cX7_add 35 = .ok (.getfield 10, 3) := by decide +kernel
theorem dX7_add_38 : decode cX7_add 38 = .ok (.iload_n 1, 1) := by decide +kernel
theorem dX7_add_39 : decode cX7_add 39 = .ok (.invokevirtual 66, 3) := by decide +kernel
theorem dX7_add_42 : decode cX7_add 42 = .ok (.aload_n 0, 1) := by decide +kernel
theorem dX7_add_43 : decode cX7_add 43 = .ok (.getfield 10, 3) := by decide +kernel
theorem dX7_add_46 : decode cX7_add 46 = .ok (.getfield 69, 3) := by decide +kernel
theorem dX7_add_49 : decode cX7_add 49 = .ok (.ireturn, 1) := by decide +kernel
set_option maxRecDepth 20000 in
theorem ggX7_addLine_X7_requireLine : GoodIn wsX7_addLine wsX7_requireLine := goodIn_ca (goodIn_r _ [5, 6, 7, 8, 9, 4, 10, 11] (by decide +kernel) (by decide +kernel)) (goodIn_sub (fun _ h => List.mem_cons_of_mem _ (List.mem_append_left _ (List.mem_append_right _ h))) (by decide +kernel))
set_option maxRecDepth 20000 in
theorem gX7_addLine_X7_requireLine : GoodIn wsX7_addLine (va_wsS RX7 73 yX7_requireLine wsX7_requireLine) := goodIn_app (goodIn_of _ (by decide +kernel)) ggX7_addLine_X7_requireLine
set_option maxRecDepth 20000 in
theorem ggX7_addLine_X7_requireOpen : GoodIn wsX7_addLine wsX7_requireOpen := goodIn_ca (goodIn_r _ [15, 16, 17, 18, 48, 49, 50, 51, 52, 53, 54] (by decide +kernel) (by decide +kernel)) (goodIn_sub (fun _ h => List.mem_cons_of_mem _ (List.mem_append_right _ h)) (by decide +kernel))
set_option maxRecDepth 20000 in
theorem gX7_addLine_X7_requireOpen : GoodIn wsX7_addLine (wsV RX7 49 RX7 yX7_requireOpen wsX7_requireOpen) := goodIn_app (goodIn_of _ (by decide +kernel)) ggX7_addLine_X7_requireOpen
set_option maxRecDepth 20000 in
theorem ggX7_addLine_X7_newInLine : GoodIn wsX7_addLine wsX7_newInLine := goodIn_r _ [22, 1, 23, 24, 25, 26, 27, 28, 29, 30, 31, 32, 33, 34, 35, 36, 37, 48, 49, 50, 51, 52, 53, 54, 55, 56, 57] (by decide +kernel) (by decide +kernel)
set_option maxRecDepth 20000 in
theorem gX7_addLine_X7_newInLine : GoodIn wsX7_addLine (wsV RX7 77 RX7 yX7_newInLine wsX7_newInLine) := goodIn_app (goodIn_of _ (by decide +kernel)) ggX7_addLine_X7_newInLine
set_option maxRecDepth 20000 in
theorem ggX7_addLine_X7_requireRoomFor : GoodIn wsX7_addLine wsX7_requireRoomFor := goodIn_ca (goodIn_r _ [41, 16, 17, 1, 48, 49, 50, 51, 52, 53, 54, 55, 56] (by decide +kernel) (by decide +kernel)) (goodIn_sub (fun _ h => List.mem_cons_of_mem _ (List.mem_append_right _ h)) (by decide +kernel))
set_option maxRecDepth 20000 in
theorem gX7_addLine_X7_requireRoomFor : GoodIn wsX7_addLine (wsV RX7 63 RX7 yX7_requireRoomFor wsX7_requireRoomFor) := goodIn_app (goodIn_of _ (by decide +kernel)) ggX7_addLine_X7_requireRoomFor
set_option maxRecDepth 20000 in
theorem ggX7_addLine_X4_holds : GoodIn wsX7_addLine wsX4_holds := goodIn_r _ [26, 27, 28, 29, 30, 31, 24, 32, 33, 34, 35, 36, 37, 55, 56, 57] (by decide +kernel) (by decide +kernel)
set_option maxRecDepth 20000 in
theorem gX7_addLine_X4_holds_n52 : GoodIn wsX7_addLine (wsX4_holds) := ggX7_addLine_X4_holds
set_option maxRecDepth 20000 in
theorem ggX7_addLine_X4_insert : GoodIn wsX7_addLine wsX4_insert := goodIn_r _ [44, 27, 28, 29, 30, 31, 24, 32, 33, 34, 35, 36, 37, 45, 46, 47, 55, 56, 57] (by decide +kernel) (by decide +kernel)
set_option maxRecDepth 20000 in
theorem gX7_addLine_X4_insert_n66 : GoodIn wsX7_addLine (wsX4_insert) := ggX7_addLine_X4_insert
theorem dX7_addLine_0 : decode cX7_addLine 0 = .ok (.iload_n 1, 1) := by decide +kernel
theorem dX7_addLine_1 : decode cX7_addLine 1 = .ok (.iload_n 2, 1) := by decide +kernel
theorem dX7_addLine_2 : decode cX7_addLine 2 = .ok (.iload_n 3, 1) := by decide +kernel
theorem dX7_addLine_3 : decode cX7_addLine 3 = .ok (.invokestatic 73, 3) := by decide +kernel
theorem dX7_addLine_6 : decode cX7_addLine 6 = .ok (.aload_n 0, 1) := by decide +kernel
theorem dX7_addLine_7 : decode cX7_addLine 7 = .ok (.invokevirtual 49, 3) := by decide +kernel
theorem dX7_addLine_10 : decode cX7_addLine 10 = .ok (.aload_n 0, 1) := by decide +kernel
theorem dX7_addLine_11 : decode cX7_addLine 11 = .ok (.aload_n 0, 1) := by decide +kernel
theorem dX7_addLine_12 : decode cX7_addLine 12 = .ok (.iload_n 1, 1) := by decide +kernel
theorem dX7_addLine_13 : decode cX7_addLine 13 = .ok (.iload_n 2, 1) := by decide +kernel
theorem dX7_addLine_14 : decode cX7_addLine 14 = .ok (.iload_n 3, 1) := by decide +kernel
theorem dX7_addLine_15 : decode cX7_addLine 15 = .ok (.invokevirtual 77, 3) := by decide +kernel
theorem dX7_addLine_18 : decode cX7_addLine 18 = .ok (.invokevirtual 63, 3) := by decide +kernel
theorem dX7_addLine_21 : decode cX7_addLine 21 = .ok (.iconst 0, 1) := by decide +kernel
theorem dX7_addLine_22 : decode cX7_addLine 22 = .ok (.istore 4, 2) := by decide +kernel
theorem dX7_addLine_24 : decode cX7_addLine 24 = .ok (.iload 4, 2) := by decide +kernel
theorem dX7_addLine_26 : decode cX7_addLine 26 = .ok (.iload_n 3, 1) := by decide +kernel
theorem dX7_addLine_27 : decode cX7_addLine 27 = .ok (.if_icmp .ge 38, 3) := by decide +kernel
theorem dX7_addLine_30 : decode cX7_addLine 30 = .ok (.iload_n 1, 1) := by decide +kernel
theorem dX7_addLine_31 : decode cX7_addLine 31 = .ok (.iload 4, 2) := by decide +kernel
theorem dX7_addLine_33 : decode cX7_addLine 33 = .ok (.iload_n 2, 1) := by decide +kernel
theorem dX7_addLine_34 : decode cX7_addLine 34 = .ok (.imul, 1) := by decide +kernel
theorem dX7_addLine_35 : decode cX7_addLine 35 = .ok (.iadd, 1) := by decide +kernel
theorem dX7_addLine_36 : decode cX7_addLine 36 = .ok (.istore 5, 2) := by decide +kernel
theorem dX7_addLine_38 : decode cX7_addLine 38 = .ok (.aload_n 0, 1) := by decide +kernel
theorem dX7_addLine_39 : decode cX7_addLine 39 = .ok (.getfield 10, 3) := by decide +kernel
theorem dX7_addLine_42 : decode cX7_addLine 42 = .ok (.iload 5, 2) := by decide +kernel
theorem dX7_addLine_44 : decode cX7_addLine 44 = .ok (.invokevirtual 52, 3) := by decide +kernel
theorem dX7_addLine_47 : decode cX7_addLine 47 = .ok (.ifCond .ne 12, 3) := by decide +kernel
theorem dX7_addLine_50 : decode cX7_addLine 50 = .ok (.aload_n 0, 1) := by decide +kernel
theorem dX7_addLine_51 : decode cX7_addLine 51 = .ok (.getfield 10, 3) := by decide +kernel
theorem dX7_addLine_54 : decode cX7_addLine 54 = .ok (.iload 5, 2) := by decide +kernel
theorem dX7_addLine_56 : decode cX7_addLine 56 = .ok (.invokevirtual 66, 3) := by decide +kernel
theorem dX7_addLine_59 : decode cX7_addLine 59 = .ok (.iinc 4 1, 3) := by decide +kernel
theorem dX7_addLine_62 : decode cX7_addLine 62 = .ok (.goto (-38), 3) := by decide +kernel
theorem dX7_addLine_65 : decode cX7_addLine 65 = .ok (.aload_n 0, 1) := by decide +kernel
theorem dX7_addLine_66 : decode cX7_addLine 66 = .ok (.getfield 10, 3) := by decide +kernel
theorem dX7_addLine_69 : decode cX7_addLine 69 = .ok (.getfield 69, 3) := by decide +kernel
theorem dX7_addLine_72 : decode cX7_addLine 72 = .ok (.ireturn, 1) := by decide +kernel
set_option maxRecDepth 20000 in
theorem ggX7_remove_X7_requireKey : GoodIn wsX7_remove wsX7_requireKey := goodIn_ca (goodIn_r _ [7, 8, 9, 10] (by decide +kernel) (by decide +kernel)) (goodIn_sub (fun _ h => List.mem_cons_of_mem _ (List.mem_append_right _ h)) (by decide +kernel))
set_option maxRecDepth 20000 in
theorem gX7_remove_X7_requireKey : GoodIn wsX7_remove (va_wsS RX7 46 yX7_requireKey wsX7_requireKey) := goodIn_app (goodIn_of _ (by decide +kernel)) ggX7_remove_X7_requireKey
set_option maxRecDepth 20000 in
theorem ggX7_remove_X7_requireOpen : GoodIn wsX7_remove wsX7_requireOpen := goodIn_ca (goodIn_r _ [14, 1, 2, 15, 37, 38, 39, 40, 41, 42, 43] (by decide +kernel) (by decide +kernel)) (goodIn_sub (fun _ h => List.mem_cons_of_mem _ (List.mem_append_left _ (List.mem_append_right _ h))) (by decide +kernel))
set_option maxRecDepth 20000 in
theorem gX7_remove_X7_requireOpen : GoodIn wsX7_remove (wsV RX7 49 RX7 yX7_requireOpen wsX7_requireOpen) := goodIn_app (goodIn_of _ (by decide +kernel)) ggX7_remove_X7_requireOpen
set_option maxRecDepth 20000 in
theorem ggX7_remove_X4_holds : GoodIn wsX7_remove wsX4_holds := goodIn_r _ [19, 20, 21, 22, 23, 24, 17, 25, 26, 27, 28, 29, 30, 44, 45, 46] (by decide +kernel) (by decide +kernel)
set_option maxRecDepth 20000 in
theorem gX7_remove_X4_holds_n52 : GoodIn wsX7_remove (wsX4_holds) := ggX7_remove_X4_holds
set_option maxRecDepth 20000 in
theorem ggX7_remove_X4_delete : GoodIn wsX7_remove wsX4_delete := goodIn_r _ [33, 20, 21, 22, 23, 24, 17, 25, 26, 27, 28, 29, 30, 34, 35, 36, 44, 45, 46] (by decide +kernel) (by decide +kernel)
set_option maxRecDepth 20000 in
theorem gX7_remove_X4_delete_n83 : GoodIn wsX7_remove (wsX4_delete) := ggX7_remove_X4_delete
theorem dX7_remove_0 : decode cX7_remove 0 = .ok (.iload_n 1, 1) := by decide +kernel
theorem dX7_remove_1 : decode cX7_remove 1 = .ok (.invokestatic 46, 3) := by decide +kernel
theorem dX7_remove_4 : decode cX7_remove 4 = .ok (.aload_n 0, 1) := by decide +kernel
theorem dX7_remove_5 : decode cX7_remove 5 = .ok (.invokevirtual 49, 3) := by decide +kernel
theorem dX7_remove_8 : decode cX7_remove 8 = .ok (.aload_n 0, 1) := by decide +kernel
theorem dX7_remove_9 : decode cX7_remove 9 = .ok (.getfield 10, 3) := by decide +kernel
theorem dX7_remove_12 : decode cX7_remove 12 = .ok (.iload_n 1, 1) := by decide +kernel
theorem dX7_remove_13 : decode cX7_remove 13 = .ok (.invokevirtual 52, 3) := by decide +kernel
theorem dX7_remove_16 : decode cX7_remove 16 = .ok (.ifCond .ne 13, 3) := by decide +kernel
theorem dX7_remove_19 : decode cX7_remove 19 = .ok (.new 56, 3) := by decide +kernel
theorem dX7_remove_22 : decode cX7_remove 22 = .ok (.dup, 1) := by decide +kernel
theorem dX7_remove_23 : decode cX7_remove 23 = .ok (.ldc 81, 2) := by decide +kernel
theorem dX7_remove_25 : decode cX7_remove 25 = .ok (.invokespecial 60, 3) := by decide +kernel
theorem dX7_remove_28 : decode cX7_remove 28 = .ok (.athrow, 1) := by decide +kernel
theorem dX7_remove_29 : decode cX7_remove 29 = .ok (.aload_n 0, 1) := by decide +kernel
theorem dX7_remove_30 : decode cX7_remove 30 = .ok (.getfield 10, 3) := by decide +kernel
theorem dX7_remove_33 : decode cX7_remove 33 = .ok (.iload_n 1, 1) := by decide +kernel
theorem dX7_remove_34 : decode cX7_remove 34 = .ok (.invokevirtual 83, 3) := by decide +kernel
theorem dX7_remove_37 : decode cX7_remove 37 = .ok (.aload_n 0, 1) := by decide +kernel
theorem dX7_remove_38 : decode cX7_remove 38 = .ok (.getfield 10, 3) := by decide +kernel
theorem dX7_remove_41 : decode cX7_remove 41 = .ok (.getfield 69, 3) := by decide +kernel
theorem dX7_remove_44 : decode cX7_remove 44 = .ok (.ireturn, 1) := by decide +kernel
theorem dX7_keys_0 : decode cX7_keys 0 = .ok (.aload_n 0, 1) := by decide +kernel
theorem dX7_keys_1 : decode cX7_keys 1 = .ok (.getfield 10, 3) := by decide +kernel
theorem dX7_keys_4 : decode cX7_keys 4 = .ok (.getfield 69, 3) := by decide +kernel
theorem dX7_keys_7 : decode cX7_keys 7 = .ok (.ireturn, 1) := by decide +kernel
set_option maxRecDepth 20000 in
theorem ggX7_has_X7_requireKey : GoodIn wsX7_has wsX7_requireKey := goodIn_ca (goodIn_r _ [5, 6, 7, 8] (by decide +kernel) (by decide +kernel)) (goodIn_sub (fun _ h => List.mem_cons_of_mem _ (List.mem_append_right _ h)) (by decide +kernel))
set_option maxRecDepth 20000 in
theorem gX7_has_X7_requireKey : GoodIn wsX7_has (va_wsS RX7 46 yX7_requireKey wsX7_requireKey) := goodIn_app (goodIn_of _ (by decide +kernel)) ggX7_has_X7_requireKey
set_option maxRecDepth 20000 in
theorem ggX7_has_X4_holds : GoodIn wsX7_has wsX4_holds := goodIn_r _ [12, 13, 14, 15, 16, 17, 10, 18, 19, 20, 21, 22, 23, 31, 32, 33] (by decide +kernel) (by decide +kernel)
set_option maxRecDepth 20000 in
theorem gX7_has_X4_holds_n52 : GoodIn wsX7_has (wsX4_holds) := ggX7_has_X4_holds
theorem dX7_has_0 : decode cX7_has 0 = .ok (.iload_n 1, 1) := by decide +kernel
theorem dX7_has_1 : decode cX7_has 1 = .ok (.invokestatic 46, 3) := by decide +kernel
theorem dX7_has_4 : decode cX7_has 4 = .ok (.aload_n 0, 1) := by decide +kernel
theorem dX7_has_5 : decode cX7_has 5 = .ok (.getfield 10, 3) := by decide +kernel
theorem dX7_has_8 : decode cX7_has 8 = .ok (.iload_n 1, 1) := by decide +kernel
theorem dX7_has_9 : decode cX7_has 9 = .ok (.invokevirtual 52, 3) := by decide +kernel
theorem dX7_has_12 : decode cX7_has 12 = .ok (.ireturn, 1) := by decide +kernel
set_option maxRecDepth 20000 in
theorem ggX7_keyAt_X7_requireBelow : GoodIn wsX7_keyAt wsX7_requireBelow := goodIn_ca (goodIn_r _ [5, 6, 7] (by decide +kernel) (by decide +kernel)) (goodIn_sub (fun _ h => List.mem_cons_of_mem _ (List.mem_append_right _ h)) (by decide +kernel))
set_option maxRecDepth 20000 in
theorem gX7_keyAt_X7_requireBelow : GoodIn wsX7_keyAt (va_wsS RX7 86 yX7_requireBelow wsX7_requireBelow) := goodIn_app (goodIn_of _ (by decide +kernel)) ggX7_keyAt_X7_requireBelow
set_option maxRecDepth 20000 in
theorem ggX7_keyAt_X4_at : GoodIn wsX7_keyAt wsX4_at := goodIn_r _ [11, 12, 13, 14, 15, 16, 17, 25, 26, 27] (by decide +kernel) (by decide +kernel)
set_option maxRecDepth 20000 in
theorem gX7_keyAt_X4_at_n90 : GoodIn wsX7_keyAt (wsX4_at) := ggX7_keyAt_X4_at
theorem dX7_keyAt_0 : decode cX7_keyAt 0 = .ok (.iload_n 1, 1) := by decide +kernel
theorem dX7_keyAt_1 : decode cX7_keyAt 1 = .ok (.aload_n 0, 1) := by decide +kernel
theorem dX7_keyAt_2 : decode cX7_keyAt 2 = .ok (.getfield 10, 3) := by decide +kernel
theorem dX7_keyAt_5 : decode cX7_keyAt 5 = .ok (.getfield 69, 3) := by decide +kernel
theorem dX7_keyAt_8 : decode cX7_keyAt 8 = .ok (.invokestatic 86, 3) := by decide +kernel
theorem dX7_keyAt_11 : decode cX7_keyAt 11 = .ok (.aload_n 0, 1) := by decide +kernel
theorem dX7_keyAt_12 : decode cX7_keyAt 12 = .ok (.getfield 10, 3) := by decide +kernel
theorem dX7_keyAt_15 : decode cX7_keyAt 15 = .ok (.iload_n 1, 1) := by decide +kernel
theorem dX7_keyAt_16 : decode cX7_keyAt 16 = .ok (.invokevirtual 90, 3) := by decide +kernel
theorem dX7_keyAt_19 : decode cX7_keyAt 19 = .ok (.ireturn, 1) := by decide +kernel
set_option maxRecDepth 20000 in
theorem ggX7_build_X7_requireOpen : GoodIn wsX7_build wsX7_requireOpen := goodIn_ca (goodIn_r _ [14, 3, 4, 9, 216, 217, 218, 219, 220, 221, 222] (by decide +kernel) (by decide +kernel)) (goodIn_sub (fun _ h => List.mem_cons_of_mem _ (List.mem_append_right _ h)) (by decide +kernel))
set_option maxRecDepth 20000 in
theorem gX7_build_X7_requireOpen : GoodIn wsX7_build (wsV RX7 49 RX7 yX7_requireOpen wsX7_requireOpen) := goodIn_app (goodIn_of _ (by decide +kernel)) ggX7_build_X7_requireOpen
set_option maxRecDepth 20000 in
theorem ggX7_build_X0_settle : GoodIn wsX7_build wsX0_settle := goodIn_r _ [18, 19, 20, 21, 22, 13, 23, 24, 25, 26, 16, 27, 28, 29, 30, 31, 32, 33, 34, 35, 36, 37, 38, 39, 40, 41, 42, 43, 44, 45, 46, 47, 48, 49, 50, 51, 52, 53, 54, 55, 56, 57, 58, 59, 60, 61, 62, 63, 64, 65, 66, 67, 68, 69, 70, 71, 72, 73, 74, 75, 76, 77, 78, 79, 80, 81, 82, 83, 84, 85, 86, 87, 88, 89, 90, 91, 92, 93, 94, 95, 96, 97, 98, 99, 100, 101, 102, 103, 104, 105, 106, 107, 108, 109, 110, 111, 112, 113, 114, 115, 116, 117, 118, 119, 120, 121, 122, 123, 124, 125, 126, 127, 128, 129, 130, 131, 132, 133, 134, 223, 224, 225, 226, 227, 228, 229, 230, 231, 232, 233, 234, 235, 236, 237, 238, 239] (by decide +kernel) (by decide +kernel)
set_option maxRecDepth 20000 in
theorem gX7_build_X0_settle_n103 : GoodIn wsX7_build (wsX0_settle) := ggX7_build_X0_settle
set_option maxRecDepth 20000 in
theorem ggX7_build_X1_settle : GoodIn wsX7_build wsX1_settle := goodIn_r _ [138, 139, 140, 141, 142, 143, 144, 136, 145, 146, 147, 148, 32, 33, 34, 35, 36, 37, 38, 39, 40, 41, 42, 43, 44, 45, 46, 47, 48, 49, 50, 51, 52, 53, 54, 55, 149, 150, 151, 152, 61, 62, 63, 64, 65, 66, 67, 68, 69, 13, 70, 71, 72, 73, 74, 75, 76, 77, 83, 84, 85, 86, 153, 154, 155, 156, 157, 158, 159, 160, 161, 162, 163, 164, 165, 166, 167, 168, 169, 170, 171, 172, 109, 110, 111, 105, 106, 107, 124, 125, 126, 173, 174, 175, 223, 224, 240, 241, 242, 243, 244, 245, 246, 247, 234, 235, 236, 237, 238, 239] (by decide +kernel) (by decide +kernel)
set_option maxRecDepth 20000 in
theorem gX7_build_X1_settle_n107 : GoodIn wsX7_build (wsX1_settle) := ggX7_build_X1_settle
set_option maxRecDepth 20000 in
theorem ggX7_build_X7_keepFingerprints : GoodIn wsX7_build wsX7_keepFingerprints := goodIn_r _ [179, 180, 5, 181, 182, 183, 184, 13, 185, 6, 53, 40, 54, 55, 43, 48, 49, 50, 51, 52, 186, 187, 188, 189, 190, 61, 62, 63, 64, 65, 66, 67, 68, 75, 76, 77, 216, 217, 218, 219, 220, 221, 222, 223, 224, 225, 226, 227, 228, 229, 230, 231, 232, 233, 239] (by decide +kernel) (by decide +kernel)
set_option maxRecDepth 20000 in
theorem gX7_build_X7_keepFingerprints : GoodIn wsX7_build (wsV RX7 112 RX7 yX7_keepFingerprints wsX7_keepFingerprints) := goodIn_app (goodIn_of _ (by decide +kernel)) ggX7_build_X7_keepFingerprints
set_option maxRecDepth 20000 in
theorem ggX7_build_X5_pack : GoodIn wsX7_build wsX5_pack := goodIn_r _ [194, 195, 196, 197, 198, 199, 46, 200, 201, 202, 192, 203, 204, 98, 99, 100, 53, 40, 54, 55, 43, 205, 206, 207, 22, 13, 23, 208, 209, 210, 211, 212, 213, 214, 215, 248, 249, 250, 239] (by decide +kernel) (by decide +kernel)
set_option maxRecDepth 20000 in
theorem gX7_build_X5_pack_n121 : GoodIn wsX7_build (wsX5_pack) := ggX7_build_X5_pack
theorem dX7_build_0 : decode cX7_build 0 = .ok (.iload_n 1, 1) := by decide +kernel
theorem dX7_build_1 : decode cX7_build 1 = .ok (.iconst 1, 1) := by decide +kernel
theorem dX7_build_2 : decode cX7_build 2 = .ok (.if_icmp .lt 9, 3) := by decide +kernel
theorem dX7_build_5 : decode cX7_build 5 = .ok (.iload_n 1, 1) := by decide +kernel
theorem dX7_build_6 : decode cX7_build 6 = .ok (.bipush 6, 2) := by decide +kernel
theorem dX7_build_8 : decode cX7_build 8 = .ok (.if_icmp .le 13, 3) := by decide +kernel
theorem dX7_build_11 : decode cX7_build 11 = .ok (.new 94, 3) := by decide +kernel
theorem dX7_build_14 : decode cX7_build 14 = .ok (.dup, 1) := by decide +kernel
theorem dX7_build_15 : decode cX7_build 15 = .ok (.ldc 96, 2) := by decide +kernel
theorem dX7_build_17 : decode cX7_build 17 = .ok (.invokespecial 98, 3) := by decide +kernel
theorem dX7_build_20 : decode cX7_build 20 = .ok (.athrow, 1) := by decide +kernel
theorem dX7_build_21 : decode cX7_build 21 = .ok (.iload_n 2, 1) := by decide +kernel
theorem dX7_build_22 : decode cX7_build 22 = .ok (.iconst 1, 1) := by decide +kernel
theorem dX7_build_23 : decode cX7_build 23 = .ok (.if_icmp .lt 9, 3) := by decide +kernel
theorem dX7_build_26 : decode cX7_build 26 = .ok (.iload_n 2, 1) := by decide +kernel
theorem dX7_build_27 : decode cX7_build 27 = .ok (.bipush 12, 2) := by decide +kernel
theorem dX7_build_29 : decode cX7_build 29 = .ok (.if_icmp .le 13, 3) := by decide +kernel
theorem dX7_build_32 : decode cX7_build 32 = .ok (.new 94, 3) := by decide +kernel
theorem dX7_build_35 : decode cX7_build 35 = .ok (.dup, 1) := by decide +kernel
theorem dX7_build_36 : decode cX7_build 36 = .ok (.ldc 99, 2) := by decide +kernel
theorem dX7_build_38 : decode cX7_build 38 = .ok (.invokespecial 98, 3) := by decide +kernel
theorem dX7_build_41 : decode cX7_build 41 = .ok (.athrow, 1) := by decide +kernel
theorem dX7_build_42 : decode cX7_build 42 = .ok (.aload_n 0, 1) := by decide +kernel
theorem dX7_build_43 : decode cX7_build 43 = .ok (.invokevirtual 49, 3) := by decide +kernel
theorem dX7_build_46 : decode cX7_build 46 = .ok (.aload_n 0, 1) := by decide +kernel
theorem dX7_build_47 : decode cX7_build 47 = .ok (.getfield 10, 3) := by decide +kernel
theorem dX7_build_50 : decode cX7_build 50 = .ok (.getfield 69, 3) := by decide +kernel
theorem dX7_build_53 : decode cX7_build 53 = .ok (.ifCond .ne 13, 3) := by decide +kernel
theorem dX7_build_56 : decode cX7_build 56 = .ok (.new 56, 3) := by decide +kernel
theorem dX7_build_59 : decode cX7_build 59 = .ok (.dup, 1) := by decide +kernel
theorem dX7_build_60 : decode cX7_build 60 = .ok (.ldc 101, 2) := by decide +kernel
theorem dX7_build_62 : decode cX7_build 62 = .ok (.invokespecial 60, 3) := by decide +kernel
theorem dX7_build_65 : decode cX7_build 65 = .ok (.athrow, 1) := by decide +kernel
theorem dX7_build_66 : decode cX7_build 66 = .ok (.aload_n 0, 1) := by decide +kernel
theorem dX7_build_67 : decode cX7_build 67 = .ok (.getfield 19, 3) := by decide +kernel
theorem dX7_build_70 : decode cX7_build 70 = .ok (.aload_n 0, 1) := by decide +kernel
theorem dX7_build_71 : decode cX7_build 71 = .ok (.getfield 10, 3) := by decide +kernel
theorem dX7_build_74 : decode cX7_build 74 = .ok (.iload_n 1, 1) := by decide +kernel
theorem dX7_build_75 : decode cX7_build 75 = .ok (.invokevirtual 103, 3) := by decide +kernel
theorem dX7_build_78 : decode cX7_build 78 = .ok (.ifCond .eq 17, 3) := by decide +kernel
theorem dX7_build_81 : decode cX7_build 81 = .ok (.aload_n 0, 1) := by decide +kernel
theorem dX7_build_82 : decode cX7_build 82 = .ok (.getfield 33, 3) := by decide +kernel
theorem dX7_build_85 : decode cX7_build 85 = .ok (.aload_n 0, 1) := by decide +kernel
theorem dX7_build_86 : decode cX7_build 86 = .ok (.getfield 10, 3) := by decide +kernel
theorem dX7_build_89 : decode cX7_build 89 = .ok (.invokevirtual 107, 3) := by decide +kernel
theorem dX7_build_92 : decode cX7_build 92 = .ok (.ifCond .ne 13, 3) := by decide +kernel
theorem dX7_build_95 : decode cX7_build 95 = .ok (.new 56, 3) := by decide +kernel
theorem dX7_build_98 : decode cX7_build 98 = .ok (.dup, 1) := by decide +kernel
theorem dX7_build_99 : decode cX7_build 99 = .ok (.ldc 110, 2) := by decide +kernel
theorem dX7_build_101 : decode cX7_build 101 = .ok (.invokespecial 60, 3) := by decide +kernel
theorem dX7_build_104 : decode cX7_build 104 = .ok (.athrow, 1) := by decide +kernel
theorem dX7_build_105 : decode cX7_build 105 = .ok (.aload_n 0, 1) := by decide +kernel
theorem dX7_build_106 : decode cX7_build 106 = .ok (.iload_n 2, 1) := by decide +kernel
theorem dX7_build_107 : decode cX7_build 107 = .ok (.invokevirtual 112, 3) := by decide +kernel
theorem dX7_build_110 : decode cX7_build 110 = .ok (.aload_n 0, 1) := by decide +kernel
theorem dX7_build_111 : decode cX7_build 111 = .ok (.getfield 26, 3) := by decide +kernel
theorem dX7_build_114 : decode cX7_build 114 = .ok (.aload_n 0, 1) := by decide +kernel
theorem dX7_build_115 : decode cX7_build 115 = .ok (.getfield 19, 3) := by decide +kernel
theorem dX7_build_118 : decode cX7_build 118 = .ok (.getfield 115, 3) := by decide +kernel
theorem dX7_build_121 : decode cX7_build 121 = .ok (.aload_n 0, 1) := by decide +kernel
theorem dX7_build_122 : decode cX7_build 122 = .ok (.getfield 19, 3) := by decide +kernel
theorem dX7_build_125 : decode cX7_build 125 = .ok (.getfield 118, 3) := by decide +kernel
theorem dX7_build_128 : decode cX7_build 128 = .ok (.invokevirtual 121, 3) := by decide +kernel
theorem dX7_build_131 : decode cX7_build 131 = .ok (.aload_n 0, 1) := by decide +kernel
theorem dX7_build_132 : decode cX7_build 132 = .ok (.iconst 1, 1) := by decide +kernel
theorem dX7_build_133 : decode cX7_build 133 = .ok (.putfield 125, 3) := by decide +kernel
theorem dX7_build_136 : decode cX7_build 136 = .ok (.aload_n 0, 1) := by decide +kernel
theorem dX7_build_137 : decode cX7_build 137 = .ok (.getfield 19, 3) := by decide +kernel
theorem dX7_build_140 : decode cX7_build 140 = .ok (.getfield 129, 3) := by decide +kernel
theorem dX7_build_143 : decode cX7_build 143 = .ok (.ireturn, 1) := by decide +kernel
set_option maxRecDepth 20000 in
theorem ggX7_reopen_X7_requireBuilt : GoodIn wsX7_reopen wsX7_requireBuilt := goodIn_ca (goodIn_r _ [6, 7, 8, 1, 9, 10, 11, 12, 13, 14, 15] (by decide +kernel) (by decide +kernel)) (goodIn_sub (fun _ h => List.mem_cons_of_mem _ (List.mem_append_right _ h)) (by decide +kernel))
set_option maxRecDepth 20000 in
theorem gX7_reopen_X7_requireBuilt : GoodIn wsX7_reopen (wsV RX7 132 RX7 yX7_requireBuilt wsX7_requireBuilt) := goodIn_app (goodIn_of _ (by decide +kernel)) ggX7_reopen_X7_requireBuilt
theorem dX7_reopen_0 : decode cX7_reopen 0 = .ok (.aload_n 0, 1) := by decide +kernel
theorem dX7_reopen_1 : decode cX7_reopen 1 = .ok (.invokevirtual 132, 3) := by decide +kernel
theorem dX7_reopen_4 : decode cX7_reopen 4 = .ok (.aload_n 0, 1) := by decide +kernel
theorem dX7_reopen_5 : decode cX7_reopen 5 = .ok (.iconst 0, 1) := by decide +kernel
theorem dX7_reopen_6 : decode cX7_reopen 6 = .ok (.putfield 125, 3) := by decide +kernel
theorem dX7_reopen_9 : decode cX7_reopen 9 = .ok (.return_, 1) := by decide +kernel
theorem dX7_isBuilt_0 : decode cX7_isBuilt 0 = .ok (.aload_n 0, 1) := by decide +kernel
theorem dX7_isBuilt_1 : decode cX7_isBuilt 1 = .ok (.getfield 125, 3) := by decide +kernel
theorem dX7_isBuilt_4 : decode cX7_isBuilt 4 = .ok (.ireturn, 1) := by decide +kernel
set_option maxRecDepth 20000 in
theorem ggX7_number_X7_requireKey : GoodIn wsX7_number wsX7_requireKey := goodIn_ca (goodIn_r _ [5, 6, 7, 8] (by decide +kernel) (by decide +kernel)) (goodIn_sub (fun _ h => List.mem_cons_of_mem _ (List.mem_append_left _ (List.mem_append_right _ h))) (by decide +kernel))
set_option maxRecDepth 20000 in
theorem gX7_number_X7_requireKey : GoodIn wsX7_number (va_wsS RX7 46 yX7_requireKey wsX7_requireKey) := goodIn_app (goodIn_of _ (by decide +kernel)) ggX7_number_X7_requireKey
set_option maxRecDepth 20000 in
theorem ggX7_number_X7_requireBuilt : GoodIn wsX7_number wsX7_requireBuilt := goodIn_ca (goodIn_r _ [12, 13, 14, 15, 50, 51, 52, 53, 54, 55, 56] (by decide +kernel) (by decide +kernel)) (goodIn_sub (fun _ h => List.mem_cons_of_mem _ (List.mem_append_right _ h)) (by decide +kernel))
set_option maxRecDepth 20000 in
theorem gX7_number_X7_requireBuilt : GoodIn wsX7_number (wsV RX7 132 RX7 yX7_requireBuilt wsX7_requireBuilt) := goodIn_app (goodIn_of _ (by decide +kernel)) ggX7_number_X7_requireBuilt
set_option maxRecDepth 20000 in
theorem ggX7_number_X0_numberOf : GoodIn wsX7_number wsX0_numberOf := goodIn_r _ [19, 20, 21, 22, 23, 24, 25, 26, 17, 27, 28, 29, 30, 31, 32, 33, 34, 35, 36, 37, 38, 4, 39, 40, 41, 42, 43, 44, 45, 46, 47, 48, 49, 57, 58, 59, 60, 61, 62, 63, 64, 65, 66] (by decide +kernel) (by decide +kernel)
set_option maxRecDepth 20000 in
theorem gX7_number_X0_numberOf_n135 : GoodIn wsX7_number (wsX0_numberOf) := ggX7_number_X0_numberOf
theorem dX7_number_0 : decode cX7_number 0 = .ok (.iload_n 1, 1) := by decide +kernel
theorem dX7_number_1 : decode cX7_number 1 = .ok (.invokestatic 46, 3) := by decide +kernel
theorem dX7_number_4 : decode cX7_number 4 = .ok (.aload_n 0, 1) := by decide +kernel
theorem dX7_number_5 : decode cX7_number 5 = .ok (.invokevirtual 132, 3) := by decide +kernel
theorem dX7_number_8 : decode cX7_number 8 = .ok (.aload_n 0, 1) := by decide +kernel
theorem dX7_number_9 : decode cX7_number 9 = .ok (.getfield 19, 3) := by decide +kernel
theorem dX7_number_12 : decode cX7_number 12 = .ok (.iload_n 1, 1) := by decide +kernel
theorem dX7_number_13 : decode cX7_number 13 = .ok (.invokevirtual 135, 3) := by decide +kernel
theorem dX7_number_16 : decode cX7_number 16 = .ok (.ireturn, 1) := by decide +kernel
set_option maxRecDepth 20000 in
theorem ggX7_find_X7_requireKey : GoodIn wsX7_find wsX7_requireKey := goodIn_ca (goodIn_r _ [4, 5, 6, 7] (by decide +kernel) (by decide +kernel)) (goodIn_sub (fun _ h => List.mem_cons_of_mem _ (List.mem_append_left _ (List.mem_append_right _ h))) (by decide +kernel))
set_option maxRecDepth 20000 in
theorem gX7_find_X7_requireKey : GoodIn wsX7_find (va_wsS RX7 46 yX7_requireKey wsX7_requireKey) := goodIn_app (goodIn_of _ (by decide +kernel)) ggX7_find_X7_requireKey
set_option maxRecDepth 20000 in
theorem ggX7_find_X7_requireBuilt : GoodIn wsX7_find wsX7_requireBuilt := goodIn_ca (goodIn_r _ [11, 12, 13, 14, 61, 62, 63, 64, 65, 66, 67] (by decide +kernel) (by decide +kernel)) (goodIn_sub (fun _ h => List.mem_cons_of_mem _ (List.mem_append_right _ h)) (by decide +kernel))
set_option maxRecDepth 20000 in
theorem gX7_find_X7_requireBuilt : GoodIn wsX7_find (wsV RX7 132 RX7 yX7_requireBuilt wsX7_requireBuilt) := goodIn_app (goodIn_of _ (by decide +kernel)) ggX7_find_X7_requireBuilt
set_option maxRecDepth 20000 in
theorem ggX7_find_X7_lookUp : GoodIn wsX7_find wsX7_lookUp := goodIn_r _ [18, 19, 20, 21, 22, 23, 24, 25, 26, 27, 28, 29, 30, 31, 32, 33, 34, 35, 36, 37, 38, 39, 40, 41, 42, 43, 3, 44, 45, 46, 47, 48, 49, 50, 51, 52, 53, 54, 55, 56, 57, 58, 59, 60, 61, 62, 63, 64, 65, 66, 67, 68, 69, 70, 71, 72, 73, 74, 75, 76, 77] (by decide +kernel) (by decide +kernel)
set_option maxRecDepth 20000 in
theorem gX7_find_X7_lookUp : GoodIn wsX7_find (wsV RX7 138 RX7 yX7_lookUp wsX7_lookUp) := goodIn_app (goodIn_of _ (by decide +kernel)) ggX7_find_X7_lookUp
theorem dX7_find_0 : decode cX7_find 0 = .ok (.iload_n 1, 1) := by decide +kernel
theorem dX7_find_1 : decode cX7_find 1 = .ok (.invokestatic 46, 3) := by decide +kernel
theorem dX7_find_4 : decode cX7_find 4 = .ok (.aload_n 0, 1) := by decide +kernel
theorem dX7_find_5 : decode cX7_find 5 = .ok (.invokevirtual 132, 3) := by decide +kernel
theorem dX7_find_8 : decode cX7_find 8 = .ok (.aload_n 0, 1) := by decide +kernel
theorem dX7_find_9 : decode cX7_find 9 = .ok (.iload_n 1, 1) := by decide +kernel
theorem dX7_find_10 : decode cX7_find 10 = .ok (.invokevirtual 138, 3) := by decide +kernel
theorem dX7_find_13 : decode cX7_find 13 = .ok (.ireturn, 1) := by decide +kernel
set_option maxRecDepth 20000 in
theorem ggX7_strangers_X7_requireKey : GoodIn wsX7_strangers wsX7_requireKey := goodIn_ca (goodIn_r _ [7, 1, 2, 8] (by decide +kernel) (by decide +kernel)) (goodIn_sub (fun _ h => List.mem_cons_of_mem _ (List.mem_append_left _ (List.mem_append_right _ h))) (by decide +kernel))
set_option maxRecDepth 20000 in
theorem gX7_strangers_X7_requireKey : GoodIn wsX7_strangers (va_wsS RX7 46 yX7_requireKey wsX7_requireKey) := goodIn_app (goodIn_of _ (by decide +kernel)) ggX7_strangers_X7_requireKey
set_option maxRecDepth 20000 in
theorem ggX7_strangers_X7_requireBuilt : GoodIn wsX7_strangers wsX7_requireBuilt := goodIn_ca (goodIn_r _ [12, 13, 14, 15, 72, 73, 74, 75, 76, 77, 78] (by decide +kernel) (by decide +kernel)) (goodIn_sub (fun _ h => List.mem_cons_of_mem _ (List.mem_append_right _ h)) (by decide +kernel))
set_option maxRecDepth 20000 in
theorem gX7_strangers_X7_requireBuilt : GoodIn wsX7_strangers (wsV RX7 132 RX7 yX7_requireBuilt wsX7_requireBuilt) := goodIn_app (goodIn_of _ (by decide +kernel)) ggX7_strangers_X7_requireBuilt
set_option maxRecDepth 20000 in
theorem ggX7_strangers_X7_lookUp : GoodIn wsX7_strangers wsX7_lookUp := goodIn_r _ [19, 20, 21, 22, 23, 24, 25, 26, 27, 28, 29, 30, 31, 32, 33, 34, 35, 36, 37, 38, 39, 40, 41, 42, 43, 44, 6, 45, 46, 47, 48, 49, 50, 51, 52, 53, 54, 55, 56, 57, 58, 59, 60, 61, 72, 73, 74, 75, 76, 77, 78, 79, 80, 81, 82, 83, 84, 85, 86, 87, 88] (by decide +kernel) (by decide +kernel)
set_option maxRecDepth 20000 in
theorem gX7_strangers_X7_lookUp : GoodIn wsX7_strangers (wsV RX7 138 RX7 yX7_lookUp wsX7_lookUp) := goodIn_app (goodIn_of _ (by decide +kernel)) ggX7_strangers_X7_lookUp
set_option maxRecDepth 20000 in
theorem ggX7_strangers_X4_holds : GoodIn wsX7_strangers wsX4_holds := goodIn_r _ [65, 66, 67, 68, 69, 70, 63, 71, 46, 47, 48, 49, 50, 89, 90, 88] (by decide +kernel) (by decide +kernel)
set_option maxRecDepth 20000 in
theorem gX7_strangers_X4_holds_n52 : GoodIn wsX7_strangers (wsX4_holds) := ggX7_strangers_X4_holds
theorem dX7_strangers_0 : decode cX7_strangers 0 = .ok (.iload_n 1, 1) := by decide +kernel
theorem dX7_strangers_1 : decode cX7_strangers 1 = .ok (.invokestatic 46, 3) := by decide +kernel
theorem dX7_strangers_4 : decode cX7_strangers 4 = .ok (.iload_n 2, 1) := by decide +kernel
theorem dX7_strangers_5 : decode cX7_strangers 5 = .ok (.invokestatic 46, 3) := by decide +kernel
end
section
theorem dX7_strangers_8 : decode cX7_strangers 8 = .ok (.iload_n 2, 1) := by decide +kernel
theorem dX7_strangers_9 : decode cX7_strangers 9 = .ok (.iload_n 1, 1) := by decide +kernel
theorem dX7_strangers_10 : decode cX7_strangers 10 = .ok (.if_icmp .lt 12, 3) := by decide +kernel
theorem dX7_strangers_13 : decode cX7_strangers 13 = .ok (.iload_n 2, 1) := by decide +kernel
theorem dX7_strangers_14 : decode cX7_strangers 14 = .ok (.iload_n 1, 1) := by decide +kernel
theorem dX7_strangers_15 : decode cX7_strangers 15 = .ok (.isub, 1) := by decide +kernel
theorem dX7_strangers_16 : decode cX7_strangers 16 = .ok (.sipush 4999, 3) := by decide +kernel
theorem dX7_strangers_19 : decode cX7_strangers 19 = .ok (.if_icmp .le 13, 3) := by decide +kernel
theorem dX7_strangers_22 : decode cX7_strangers 22 = .ok (.new 94, 3) := by decide +kernel
theorem dX7_strangers_25 : decode cX7_strangers 25 = .ok (.dup, 1) := by decide +kernel
theorem dX7_strangers_26 : decode cX7_strangers 26 = .ok (.ldc 141, 2) := by decide +kernel
theorem dX7_strangers_28 : decode cX7_strangers 28 = .ok (.invokespecial 98, 3) := by decide +kernel
theorem dX7_strangers_31 : decode cX7_strangers 31 = .ok (.athrow, 1) := by decide +kernel
theorem dX7_strangers_32 : decode cX7_strangers 32 = .ok (.aload_n 0, 1) := by decide +kernel
theorem dX7_strangers_33 : decode cX7_strangers 33 = .ok (.invokevirtual 132, 3) := by decide +kernel
theorem dX7_strangers_36 : decode cX7_strangers 36 = .ok (.iconst 0, 1) := by decide +kernel
theorem dX7_strangers_37 : decode cX7_strangers 37 = .ok (.istore_n 3, 1) := by decide +kernel
theorem dX7_strangers_38 : decode cX7_strangers 38 = .ok (.iload_n 1, 1) := by decide +kernel
theorem dX7_strangers_39 : decode cX7_strangers 39 = .ok (.istore 4, 2) := by decide +kernel
theorem dX7_strangers_41 : decode cX7_strangers 41 = .ok (.iload 4, 2) := by decide +kernel
theorem dX7_strangers_43 : decode cX7_strangers 43 = .ok (.iload_n 2, 1) := by decide +kernel
theorem dX7_strangers_44 : decode cX7_strangers 44 = .ok (.if_icmp .gt 34, 3) := by decide +kernel
theorem dX7_strangers_47 : decode cX7_strangers 47 = .ok (.aload_n 0, 1) := by decide +kernel
theorem dX7_strangers_48 : decode cX7_strangers 48 = .ok (.iload 4, 2) := by decide +kernel
theorem dX7_strangers_50 : decode cX7_strangers 50 = .ok (.invokevirtual 138, 3) := by decide +kernel
theorem dX7_strangers_53 : decode cX7_strangers 53 = .ok (.iconst (-1), 1) := by decide +kernel
theorem dX7_strangers_54 : decode cX7_strangers 54 = .ok (.if_icmp .eq 18, 3) := by decide +kernel
theorem dX7_strangers_57 : decode cX7_strangers 57 = .ok (.aload_n 0, 1) := by decide +kernel
theorem dX7_strangers_58 : decode cX7_strangers 58 = .ok (.getfield 10, 3) := by decide +kernel
theorem dX7_strangers_61 : decode cX7_strangers 61 = .ok (.iload 4, 2) := by decide +kernel
theorem dX7_strangers_63 : decode cX7_strangers 63 = .ok (.invokevirtual 52, 3) := by decide +kernel
theorem dX7_strangers_66 : decode cX7_strangers 66 = .ok (.ifCond .ne 6, 3) := by decide +kernel
theorem dX7_strangers_69 : decode cX7_strangers 69 = .ok (.iinc 3 1, 3) := by decide +kernel
theorem dX7_strangers_72 : decode cX7_strangers 72 = .ok (.iinc 4 1, 3) := by decide +kernel
theorem dX7_strangers_75 : decode cX7_strangers 75 = .ok (.goto (-34), 3) := by decide +kernel
theorem dX7_strangers_78 : decode cX7_strangers 78 = .ok (.iload_n 3, 1) := by decide +kernel
theorem dX7_strangers_79 : decode cX7_strangers 79 = .ok (.ireturn, 1) := by decide +kernel
set_option maxRecDepth 20000 in
theorem ggX7_keyOf_X7_requireBuilt : GoodIn wsX7_keyOf wsX7_requireBuilt := goodIn_ca (goodIn_r _ [6, 7, 8, 9, 30, 31, 32, 33, 34, 35, 36] (by decide +kernel) (by decide +kernel)) (goodIn_sub (fun _ h => List.mem_cons_of_mem _ (List.mem_append_left _ (List.mem_append_right _ h))) (by decide +kernel))
set_option maxRecDepth 20000 in
theorem gX7_keyOf_X7_requireBuilt : GoodIn wsX7_keyOf (wsV RX7 132 RX7 yX7_requireBuilt wsX7_requireBuilt) := goodIn_app (goodIn_of _ (by decide +kernel)) ggX7_keyOf_X7_requireBuilt
set_option maxRecDepth 20000 in
theorem ggX7_keyOf_X7_requireBelow : GoodIn wsX7_keyOf wsX7_requireBelow := goodIn_ca (goodIn_r _ [12, 13, 14] (by decide +kernel) (by decide +kernel)) (goodIn_sub (fun _ h => List.mem_cons_of_mem _ (List.mem_append_right _ h)) (by decide +kernel))
set_option maxRecDepth 20000 in
theorem gX7_keyOf_X7_requireBelow : GoodIn wsX7_keyOf (va_wsS RX7 86 yX7_requireBelow wsX7_requireBelow) := goodIn_app (goodIn_of _ (by decide +kernel)) ggX7_keyOf_X7_requireBelow
set_option maxRecDepth 20000 in
theorem ggX7_keyOf_X7_keyWithNumber : GoodIn wsX7_keyOf wsX7_keyWithNumber := goodIn_r _ [18, 1, 19, 20, 21, 22, 23, 24, 25, 26, 27, 28, 29, 30, 31, 32, 33, 34, 35, 36, 39, 40, 41, 42, 43, 44, 45, 46, 47, 48, 37, 38] (by decide +kernel) (by decide +kernel)
set_option maxRecDepth 20000 in
theorem gX7_keyOf_X7_keyWithNumber : GoodIn wsX7_keyOf (wsV RX7 143 RX7 yX7_keyWithNumber wsX7_keyWithNumber) := goodIn_app (goodIn_of _ (by decide +kernel)) ggX7_keyOf_X7_keyWithNumber
theorem dX7_keyOf_0 : decode cX7_keyOf 0 = .ok (.aload_n 0, 1) := by decide +kernel
theorem dX7_keyOf_1 : decode cX7_keyOf 1 = .ok (.invokevirtual 132, 3) := by decide +kernel
theorem dX7_keyOf_4 : decode cX7_keyOf 4 = .ok (.iload_n 1, 1) := by decide +kernel
theorem dX7_keyOf_5 : decode cX7_keyOf 5 = .ok (.aload_n 0, 1) := by decide +kernel
theorem dX7_keyOf_6 : decode cX7_keyOf 6 = .ok (.getfield 10, 3) := by decide +kernel
theorem dX7_keyOf_9 : decode cX7_keyOf 9 = .ok (.getfield 69, 3) := by decide +kernel
theorem dX7_keyOf_12 : decode cX7_keyOf 12 = .ok (.invokestatic 86, 3) := by decide +kernel
theorem dX7_keyOf_15 : decode cX7_keyOf 15 = .ok (.aload_n 0, 1) := by decide +kernel
theorem dX7_keyOf_16 : decode cX7_keyOf 16 = .ok (.iload_n 1, 1) := by decide +kernel
theorem dX7_keyOf_17 : decode cX7_keyOf 17 = .ok (.invokevirtual 143, 3) := by decide +kernel
theorem dX7_keyOf_20 : decode cX7_keyOf 20 = .ok (.ireturn, 1) := by decide +kernel
set_option maxRecDepth 20000 in
theorem ggX7_fingerprint_X7_requireBuilt : GoodIn wsX7_fingerprint wsX7_requireBuilt := goodIn_ca (goodIn_r _ [7, 8, 9, 10, 21, 22, 23, 24, 25, 26, 27] (by decide +kernel) (by decide +kernel)) (goodIn_sub (fun _ h => List.mem_cons_of_mem _ (List.mem_append_left _ (List.mem_append_right _ h))) (by decide +kernel))
set_option maxRecDepth 20000 in
theorem gX7_fingerprint_X7_requireBuilt : GoodIn wsX7_fingerprint (wsV RX7 132 RX7 yX7_requireBuilt wsX7_requireBuilt) := goodIn_app (goodIn_of _ (by decide +kernel)) ggX7_fingerprint_X7_requireBuilt
set_option maxRecDepth 20000 in
theorem ggX7_fingerprint_X7_requireBelow : GoodIn wsX7_fingerprint wsX7_requireBelow := goodIn_ca (goodIn_r _ [13, 14, 15] (by decide +kernel) (by decide +kernel)) (goodIn_sub (fun _ h => List.mem_cons_of_mem _ (List.mem_append_right _ h)) (by decide +kernel))
set_option maxRecDepth 20000 in
theorem gX7_fingerprint_X7_requireBelow : GoodIn wsX7_fingerprint (va_wsS RX7 86 yX7_requireBelow wsX7_requireBelow) := goodIn_app (goodIn_of _ (by decide +kernel)) ggX7_fingerprint_X7_requireBelow
set_option maxRecDepth 20000 in
theorem ggX7_fingerprint_X6_get : GoodIn wsX7_fingerprint wsX6_get := goodIn_r _ [19, 20, 30] (by decide +kernel) (by decide +kernel)
set_option maxRecDepth 20000 in
theorem gX7_fingerprint_X6_get_n146 : GoodIn wsX7_fingerprint (wsX6_get) := ggX7_fingerprint_X6_get
theorem dX7_fingerprint_0 : decode cX7_fingerprint 0 = .ok (.aload_n 0, 1) := by decide +kernel
theorem dX7_fingerprint_1 : decode cX7_fingerprint 1 = .ok (.invokevirtual 132, 3) := by decide +kernel
theorem dX7_fingerprint_4 : decode cX7_fingerprint 4 = .ok (.iload_n 1, 1) := by decide +kernel
theorem dX7_fingerprint_5 : decode cX7_fingerprint 5 = .ok (.aload_n 0, 1) := by decide +kernel
theorem dX7_fingerprint_6 : decode cX7_fingerprint 6 = .ok (.getfield 10, 3) := by decide +kernel
theorem dX7_fingerprint_9 : decode cX7_fingerprint 9 = .ok (.getfield 69, 3) := by decide +kernel
theorem dX7_fingerprint_12 : decode cX7_fingerprint 12 = .ok (.invokestatic 86, 3) := by decide +kernel
theorem dX7_fingerprint_15 : decode cX7_fingerprint 15 = .ok (.aload_n 0, 1) := by decide +kernel
theorem dX7_fingerprint_16 : decode cX7_fingerprint 16 = .ok (.getfield 42, 3) := by decide +kernel
theorem dX7_fingerprint_19 : decode cX7_fingerprint 19 = .ok (.iload_n 1, 1) := by decide +kernel
theorem dX7_fingerprint_20 : decode cX7_fingerprint 20 = .ok (.invokevirtual 146, 3) := by decide +kernel
theorem dX7_fingerprint_23 : decode cX7_fingerprint 23 = .ok (.ireturn, 1) := by decide +kernel
set_option maxRecDepth 20000 in
theorem ggX7_seed_X7_requireBuilt : GoodIn wsX7_seed wsX7_requireBuilt := goodIn_ca (goodIn_r _ [6, 7, 8, 9, 10, 11, 12, 13, 14, 15, 16] (by decide +kernel) (by decide +kernel)) (goodIn_sub (fun _ h => List.mem_cons_of_mem _ (List.mem_append_right _ h)) (by decide +kernel))
set_option maxRecDepth 20000 in
theorem gX7_seed_X7_requireBuilt : GoodIn wsX7_seed (wsV RX7 132 RX7 yX7_requireBuilt wsX7_requireBuilt) := goodIn_app (goodIn_of _ (by decide +kernel)) ggX7_seed_X7_requireBuilt
theorem dX7_seed_0 : decode cX7_seed 0 = .ok (.aload_n 0, 1) := by decide +kernel
theorem dX7_seed_1 : decode cX7_seed 1 = .ok (.invokevirtual 132, 3) := by decide +kernel
theorem dX7_seed_4 : decode cX7_seed 4 = .ok (.aload_n 0, 1) := by decide +kernel
theorem dX7_seed_5 : decode cX7_seed 5 = .ok (.getfield 19, 3) := by decide +kernel
theorem dX7_seed_8 : decode cX7_seed 8 = .ok (.getfield 129, 3) := by decide +kernel
theorem dX7_seed_11 : decode cX7_seed 11 = .ok (.ireturn, 1) := by decide +kernel
set_option maxRecDepth 20000 in
theorem ggX7_buckets_X7_requireBuilt : GoodIn wsX7_buckets wsX7_requireBuilt := goodIn_ca (goodIn_r _ [6, 7, 8, 9, 10, 11, 12, 13, 14, 15, 16] (by decide +kernel) (by decide +kernel)) (goodIn_sub (fun _ h => List.mem_cons_of_mem _ (List.mem_append_right _ h)) (by decide +kernel))
set_option maxRecDepth 20000 in
theorem gX7_buckets_X7_requireBuilt : GoodIn wsX7_buckets (wsV RX7 132 RX7 yX7_requireBuilt wsX7_requireBuilt) := goodIn_app (goodIn_of _ (by decide +kernel)) ggX7_buckets_X7_requireBuilt
theorem dX7_buckets_0 : decode cX7_buckets 0 = .ok (.aload_n 0, 1) := by decide +kernel
theorem dX7_buckets_1 : decode cX7_buckets 1 = .ok (.invokevirtual 132, 3) := by decide +kernel
theorem dX7_buckets_4 : decode cX7_buckets 4 = .ok (.aload_n 0, 1) := by decide +kernel
theorem dX7_buckets_5 : decode cX7_buckets 5 = .ok (.getfield 19, 3) := by decide +kernel
theorem dX7_buckets_8 : decode cX7_buckets 8 = .ok (.getfield 118, 3) := by decide +kernel
theorem dX7_buckets_11 : decode cX7_buckets 11 = .ok (.ireturn, 1) := by decide +kernel
set_option maxRecDepth 20000 in
theorem ggX7_inBucket_X7_requireBuilt : GoodIn wsX7_inBucket wsX7_requireBuilt := goodIn_ca (goodIn_r _ [6, 7, 8, 9, 33, 34, 35, 36, 37, 38, 39] (by decide +kernel) (by decide +kernel)) (goodIn_sub (fun _ h => List.mem_cons_of_mem _ (List.mem_append_left _ (List.mem_append_right _ h))) (by decide +kernel))
set_option maxRecDepth 20000 in
theorem gX7_inBucket_X7_requireBuilt : GoodIn wsX7_inBucket (wsV RX7 132 RX7 yX7_requireBuilt wsX7_requireBuilt) := goodIn_app (goodIn_of _ (by decide +kernel)) ggX7_inBucket_X7_requireBuilt
set_option maxRecDepth 20000 in
theorem ggX7_inBucket_X7_requireBelow : GoodIn wsX7_inBucket wsX7_requireBelow := goodIn_ca (goodIn_r _ [12, 13, 14] (by decide +kernel) (by decide +kernel)) (goodIn_sub (fun _ h => List.mem_cons_of_mem _ (List.mem_append_right _ h)) (by decide +kernel))
set_option maxRecDepth 20000 in
theorem gX7_inBucket_X7_requireBelow : GoodIn wsX7_inBucket (va_wsS RX7 86 yX7_requireBelow wsX7_requireBelow) := goodIn_app (goodIn_of _ (by decide +kernel)) ggX7_inBucket_X7_requireBelow
set_option maxRecDepth 20000 in
theorem ggX7_inBucket_X2_sizeOf : GoodIn wsX7_inBucket wsX2_sizeOf := goodIn_r _ [18, 19, 20, 21, 16, 22, 23, 24, 25, 26, 27, 28, 29, 30, 31, 32, 49, 50, 51, 52, 53, 54] (by decide +kernel) (by decide +kernel)
set_option maxRecDepth 20000 in
theorem gX7_inBucket_X2_sizeOf_n153 : GoodIn wsX7_inBucket (wsX2_sizeOf) := ggX7_inBucket_X2_sizeOf
theorem dX7_inBucket_0 : decode cX7_inBucket 0 = .ok (.aload_n 0, 1) := by decide +kernel
theorem dX7_inBucket_1 : decode cX7_inBucket 1 = .ok (.invokevirtual 132, 3) := by decide +kernel
theorem dX7_inBucket_4 : decode cX7_inBucket 4 = .ok (.iload_n 1, 1) := by decide +kernel
theorem dX7_inBucket_5 : decode cX7_inBucket 5 = .ok (.aload_n 0, 1) := by decide +kernel
theorem dX7_inBucket_6 : decode cX7_inBucket 6 = .ok (.getfield 19, 3) := by decide +kernel
theorem dX7_inBucket_9 : decode cX7_inBucket 9 = .ok (.getfield 118, 3) := by decide +kernel
theorem dX7_inBucket_12 : decode cX7_inBucket 12 = .ok (.invokestatic 86, 3) := by decide +kernel
theorem dX7_inBucket_15 : decode cX7_inBucket 15 = .ok (.aload_n 0, 1) := by decide +kernel
theorem dX7_inBucket_16 : decode cX7_inBucket 16 = .ok (.getfield 19, 3) := by decide +kernel
theorem dX7_inBucket_19 : decode cX7_inBucket 19 = .ok (.getfield 149, 3) := by decide +kernel
theorem dX7_inBucket_22 : decode cX7_inBucket 22 = .ok (.iload_n 1, 1) := by decide +kernel
theorem dX7_inBucket_23 : decode cX7_inBucket 23 = .ok (.invokevirtual 153, 3) := by decide +kernel
theorem dX7_inBucket_26 : decode cX7_inBucket 26 = .ok (.ireturn, 1) := by decide +kernel
set_option maxRecDepth 20000 in
theorem ggX7_displacement_X7_requireBuilt : GoodIn wsX7_displacement wsX7_requireBuilt := goodIn_ca (goodIn_r _ [6, 7, 8, 9, 20, 21, 22, 23, 24, 25, 26] (by decide +kernel) (by decide +kernel)) (goodIn_sub (fun _ h => List.mem_cons_of_mem _ (List.mem_append_left _ (List.mem_append_right _ h))) (by decide +kernel))
set_option maxRecDepth 20000 in
theorem gX7_displacement_X7_requireBuilt : GoodIn wsX7_displacement (wsV RX7 132 RX7 yX7_requireBuilt wsX7_requireBuilt) := goodIn_app (goodIn_of _ (by decide +kernel)) ggX7_displacement_X7_requireBuilt
set_option maxRecDepth 20000 in
theorem ggX7_displacement_X7_requireBelow : GoodIn wsX7_displacement wsX7_requireBelow := goodIn_ca (goodIn_r _ [12, 13, 14] (by decide +kernel) (by decide +kernel)) (goodIn_sub (fun _ h => List.mem_cons_of_mem _ (List.mem_append_right _ h)) (by decide +kernel))
set_option maxRecDepth 20000 in
theorem gX7_displacement_X7_requireBelow : GoodIn wsX7_displacement (va_wsS RX7 86 yX7_requireBelow wsX7_requireBelow) := goodIn_app (goodIn_of _ (by decide +kernel)) ggX7_displacement_X7_requireBelow
set_option maxRecDepth 20000 in
theorem ggX7_displacement_X6_get : GoodIn wsX7_displacement wsX6_get := goodIn_r _ [18, 19, 36] (by decide +kernel) (by decide +kernel)
set_option maxRecDepth 20000 in
theorem gX7_displacement_X6_get_n146 : GoodIn wsX7_displacement (wsX6_get) := ggX7_displacement_X6_get
theorem dX7_displacement_0 : decode cX7_displacement 0 = .ok (.aload_n 0, 1) := by decide +kernel
theorem dX7_displacement_1 : decode cX7_displacement 1 = .ok (.invokevirtual 132, 3) := by decide +kernel
theorem dX7_displacement_4 : decode cX7_displacement 4 = .ok (.iload_n 1, 1) := by decide +kernel
theorem dX7_displacement_5 : decode cX7_displacement 5 = .ok (.aload_n 0, 1) := by decide +kernel
theorem dX7_displacement_6 : decode cX7_displacement 6 = .ok (.getfield 19, 3) := by decide +kernel
theorem dX7_displacement_9 : decode cX7_displacement 9 = .ok (.getfield 118, 3) := by decide +kernel
theorem dX7_displacement_12 : decode cX7_displacement 12 = .ok (.invokestatic 86, 3) := by decide +kernel
theorem dX7_displacement_15 : decode cX7_displacement 15 = .ok (.aload_n 0, 1) := by decide +kernel
theorem dX7_displacement_16 : decode cX7_displacement 16 = .ok (.getfield 19, 3) := by decide +kernel
theorem dX7_displacement_19 : decode cX7_displacement 19 = .ok (.getfield 115, 3) := by decide +kernel
theorem dX7_displacement_22 : decode cX7_displacement 22 = .ok (.iload_n 1, 1) := by decide +kernel
theorem dX7_displacement_23 : decode cX7_displacement 23 = .ok (.invokevirtual 146, 3) := by decide +kernel
theorem dX7_displacement_26 : decode cX7_displacement 26 = .ok (.ireturn, 1) := by decide +kernel
set_option maxRecDepth 20000 in
theorem ggX7_width_X7_requireBuilt : GoodIn wsX7_width wsX7_requireBuilt := goodIn_ca (goodIn_r _ [6, 7, 8, 9, 10, 11, 12, 13, 14, 15, 16] (by decide +kernel) (by decide +kernel)) (goodIn_sub (fun _ h => List.mem_cons_of_mem _ (List.mem_append_right _ h)) (by decide +kernel))
set_option maxRecDepth 20000 in
theorem gX7_width_X7_requireBuilt : GoodIn wsX7_width (wsV RX7 132 RX7 yX7_requireBuilt wsX7_requireBuilt) := goodIn_app (goodIn_of _ (by decide +kernel)) ggX7_width_X7_requireBuilt
theorem dX7_width_0 : decode cX7_width 0 = .ok (.aload_n 0, 1) := by decide +kernel
theorem dX7_width_1 : decode cX7_width 1 = .ok (.invokevirtual 132, 3) := by decide +kernel
theorem dX7_width_4 : decode cX7_width 4 = .ok (.aload_n 0, 1) := by decide +kernel
theorem dX7_width_5 : decode cX7_width 5 = .ok (.getfield 26, 3) := by decide +kernel
theorem dX7_width_8 : decode cX7_width 8 = .ok (.getfield 158, 3) := by decide +kernel
theorem dX7_width_11 : decode cX7_width 11 = .ok (.ireturn, 1) := by decide +kernel
set_option maxRecDepth 20000 in
theorem ggX7_word_X7_requireBuilt : GoodIn wsX7_word wsX7_requireBuilt := goodIn_ca (goodIn_r _ [6, 7, 8, 9, 20, 21, 22, 23, 24, 25, 26] (by decide +kernel) (by decide +kernel)) (goodIn_sub (fun _ h => List.mem_cons_of_mem _ (List.mem_append_left _ (List.mem_append_right _ h))) (by decide +kernel))
set_option maxRecDepth 20000 in
theorem gX7_word_X7_requireBuilt : GoodIn wsX7_word (wsV RX7 132 RX7 yX7_requireBuilt wsX7_requireBuilt) := goodIn_app (goodIn_of _ (by decide +kernel)) ggX7_word_X7_requireBuilt
set_option maxRecDepth 20000 in
theorem ggX7_word_X7_requireBelow : GoodIn wsX7_word wsX7_requireBelow := goodIn_ca (goodIn_r _ [12, 13, 14] (by decide +kernel) (by decide +kernel)) (goodIn_sub (fun _ h => List.mem_cons_of_mem _ (List.mem_append_right _ h)) (by decide +kernel))
set_option maxRecDepth 20000 in
theorem gX7_word_X7_requireBelow : GoodIn wsX7_word (va_wsS RX7 86 yX7_requireBelow wsX7_requireBelow) := goodIn_app (goodIn_of _ (by decide +kernel)) ggX7_word_X7_requireBelow
set_option maxRecDepth 20000 in
theorem ggX7_word_X5_wordAt : GoodIn wsX7_word wsX5_wordAt := goodIn_r _ [18, 19, 27, 28, 29] (by decide +kernel) (by decide +kernel)
set_option maxRecDepth 20000 in
theorem gX7_word_X5_wordAt_n164 : GoodIn wsX7_word (wsX5_wordAt) := ggX7_word_X5_wordAt
theorem dX7_word_0 : decode cX7_word 0 = .ok (.aload_n 0, 1) := by decide +kernel
theorem dX7_word_1 : decode cX7_word 1 = .ok (.invokevirtual 132, 3) := by decide +kernel
theorem dX7_word_4 : decode cX7_word 4 = .ok (.iload_n 1, 1) := by decide +kernel
theorem dX7_word_5 : decode cX7_word 5 = .ok (.aload_n 0, 1) := by decide +kernel
theorem dX7_word_6 : decode cX7_word 6 = .ok (.getfield 26, 3) := by decide +kernel
theorem dX7_word_9 : decode cX7_word 9 = .ok (.getfield 161, 3) := by decide +kernel
theorem dX7_word_12 : decode cX7_word 12 = .ok (.invokestatic 86, 3) := by decide +kernel
theorem dX7_word_15 : decode cX7_word 15 = .ok (.aload_n 0, 1) := by decide +kernel
theorem dX7_word_16 : decode cX7_word 16 = .ok (.getfield 26, 3) := by decide +kernel
theorem dX7_word_19 : decode cX7_word 19 = .ok (.iload_n 1, 1) := by decide +kernel
theorem dX7_word_20 : decode cX7_word 20 = .ok (.invokevirtual 164, 3) := by decide +kernel
theorem dX7_word_23 : decode cX7_word 23 = .ok (.lreturn, 1) := by decide +kernel
set_option maxRecDepth 20000 in
theorem ggX7_byGraph_X7_requireKey : GoodIn wsX7_byGraph wsX7_requireKey := goodIn_ca (goodIn_r _ [5, 6, 7, 8] (by decide +kernel) (by decide +kernel)) (goodIn_sub (fun _ h => List.mem_cons_of_mem _ (List.mem_append_left _ (List.mem_append_right _ h))) (by decide +kernel))
set_option maxRecDepth 20000 in
theorem gX7_byGraph_X7_requireKey : GoodIn wsX7_byGraph (va_wsS RX7 46 yX7_requireKey wsX7_requireKey) := goodIn_app (goodIn_of _ (by decide +kernel)) ggX7_byGraph_X7_requireKey
set_option maxRecDepth 20000 in
theorem ggX7_byGraph_X7_requireBuilt : GoodIn wsX7_byGraph wsX7_requireBuilt := goodIn_ca (goodIn_r _ [12, 13, 14, 15, 45, 46, 47, 48, 49, 50, 51] (by decide +kernel) (by decide +kernel)) (goodIn_sub (fun _ h => List.mem_cons_of_mem _ (List.mem_append_right _ h)) (by decide +kernel))
set_option maxRecDepth 20000 in
theorem gX7_byGraph_X7_requireBuilt : GoodIn wsX7_byGraph (wsV RX7 132 RX7 yX7_requireBuilt wsX7_requireBuilt) := goodIn_app (goodIn_of _ (by decide +kernel)) ggX7_byGraph_X7_requireBuilt
set_option maxRecDepth 20000 in
theorem ggX7_byGraph_X1_sumFor : GoodIn wsX7_byGraph wsX1_sumFor := goodIn_r _ [19, 20, 21, 22, 23, 24, 25, 26, 17, 27, 28, 29, 30, 31, 32, 33, 34, 35, 36, 37, 38, 4, 39, 40, 41, 42, 43, 44, 52, 53, 54, 55, 56, 57, 58, 59, 60] (by decide +kernel) (by decide +kernel)
set_option maxRecDepth 20000 in
theorem gX7_byGraph_X1_sumFor_n168 : GoodIn wsX7_byGraph (wsX1_sumFor) := ggX7_byGraph_X1_sumFor
theorem dX7_byGraph_0 : decode cX7_byGraph 0 = .ok (.iload_n 1, 1) := by decide +kernel
theorem dX7_byGraph_1 : decode cX7_byGraph 1 = .ok (.invokestatic 46, 3) := by decide +kernel
theorem dX7_byGraph_4 : decode cX7_byGraph 4 = .ok (.aload_n 0, 1) := by decide +kernel
theorem dX7_byGraph_5 : decode cX7_byGraph 5 = .ok (.invokevirtual 132, 3) := by decide +kernel
theorem dX7_byGraph_8 : decode cX7_byGraph 8 = .ok (.aload_n 0, 1) := by decide +kernel
theorem dX7_byGraph_9 : decode cX7_byGraph 9 = .ok (.getfield 33, 3) := by decide +kernel
theorem dX7_byGraph_12 : decode cX7_byGraph 12 = .ok (.iload_n 1, 1) := by decide +kernel
theorem dX7_byGraph_13 : decode cX7_byGraph 13 = .ok (.invokevirtual 168, 3) := by decide +kernel
theorem dX7_byGraph_16 : decode cX7_byGraph 16 = .ok (.ireturn, 1) := by decide +kernel
set_option maxRecDepth 20000 in
theorem ggX7_graphSeed_X7_requireBuilt : GoodIn wsX7_graphSeed wsX7_requireBuilt := goodIn_ca (goodIn_r _ [6, 7, 8, 9, 10, 11, 12, 13, 14, 15, 16] (by decide +kernel) (by decide +kernel)) (goodIn_sub (fun _ h => List.mem_cons_of_mem _ (List.mem_append_right _ h)) (by decide +kernel))
set_option maxRecDepth 20000 in
theorem gX7_graphSeed_X7_requireBuilt : GoodIn wsX7_graphSeed (wsV RX7 132 RX7 yX7_requireBuilt wsX7_requireBuilt) := goodIn_app (goodIn_of _ (by decide +kernel)) ggX7_graphSeed_X7_requireBuilt
theorem dX7_graphSeed_0 : decode cX7_graphSeed 0 = .ok (.aload_n 0, 1) := by decide +kernel
theorem dX7_graphSeed_1 : decode cX7_graphSeed 1 = .ok (.invokevirtual 132, 3) := by decide +kernel
theorem dX7_graphSeed_4 : decode cX7_graphSeed 4 = .ok (.aload_n 0, 1) := by decide +kernel
theorem dX7_graphSeed_5 : decode cX7_graphSeed 5 = .ok (.getfield 33, 3) := by decide +kernel
theorem dX7_graphSeed_8 : decode cX7_graphSeed 8 = .ok (.getfield 171, 3) := by decide +kernel
theorem dX7_graphSeed_11 : decode cX7_graphSeed 11 = .ok (.ireturn, 1) := by decide +kernel
set_option maxRecDepth 20000 in
theorem ggX7_valueOf_X7_requireBuilt : GoodIn wsX7_valueOf wsX7_requireBuilt := goodIn_ca (goodIn_r _ [6, 7, 8, 9, 20, 21, 22, 23, 24, 25, 26] (by decide +kernel) (by decide +kernel)) (goodIn_sub (fun _ h => List.mem_cons_of_mem _ (List.mem_append_left _ (List.mem_append_right _ h))) (by decide +kernel))
set_option maxRecDepth 20000 in
theorem gX7_valueOf_X7_requireBuilt : GoodIn wsX7_valueOf (wsV RX7 132 RX7 yX7_requireBuilt wsX7_requireBuilt) := goodIn_app (goodIn_of _ (by decide +kernel)) ggX7_valueOf_X7_requireBuilt
set_option maxRecDepth 20000 in
theorem ggX7_valueOf_X7_requireBelow : GoodIn wsX7_valueOf wsX7_requireBelow := goodIn_ca (goodIn_r _ [12, 13, 14] (by decide +kernel) (by decide +kernel)) (goodIn_sub (fun _ h => List.mem_cons_of_mem _ (List.mem_append_right _ h)) (by decide +kernel))
set_option maxRecDepth 20000 in
theorem gX7_valueOf_X7_requireBelow : GoodIn wsX7_valueOf (va_wsS RX7 86 yX7_requireBelow wsX7_requireBelow) := goodIn_app (goodIn_of _ (by decide +kernel)) ggX7_valueOf_X7_requireBelow
set_option maxRecDepth 20000 in
theorem ggX7_valueOf_X6_get : GoodIn wsX7_valueOf wsX6_get := goodIn_r _ [18, 19, 35] (by decide +kernel) (by decide +kernel)
set_option maxRecDepth 20000 in
theorem gX7_valueOf_X6_get_n146 : GoodIn wsX7_valueOf (wsX6_get) := ggX7_valueOf_X6_get
theorem dX7_valueOf_0 : decode cX7_valueOf 0 = .ok (.aload_n 0, 1) := by decide +kernel
theorem dX7_valueOf_1 : decode cX7_valueOf 1 = .ok (.invokevirtual 132, 3) := by decide +kernel
theorem dX7_valueOf_4 : decode cX7_valueOf 4 = .ok (.iload_n 1, 1) := by decide +kernel
theorem dX7_valueOf_5 : decode cX7_valueOf 5 = .ok (.aload_n 0, 1) := by decide +kernel
theorem dX7_valueOf_6 : decode cX7_valueOf 6 = .ok (.getfield 33, 3) := by decide +kernel
theorem dX7_valueOf_9 : decode cX7_valueOf 9 = .ok (.getfield 172, 3) := by decide +kernel
theorem dX7_valueOf_12 : decode cX7_valueOf 12 = .ok (.invokestatic 86, 3) := by decide +kernel
theorem dX7_valueOf_15 : decode cX7_valueOf 15 = .ok (.aload_n 0, 1) := by decide +kernel
theorem dX7_valueOf_16 : decode cX7_valueOf 16 = .ok (.getfield 33, 3) := by decide +kernel
theorem dX7_valueOf_19 : decode cX7_valueOf 19 = .ok (.getfield 175, 3) := by decide +kernel
theorem dX7_valueOf_22 : decode cX7_valueOf 22 = .ok (.iload_n 1, 1) := by decide +kernel
theorem dX7_valueOf_23 : decode cX7_valueOf 23 = .ok (.invokevirtual 146, 3) := by decide +kernel
theorem dX7_valueOf_26 : decode cX7_valueOf 26 = .ok (.ireturn, 1) := by decide +kernel
theorem dX7_requireKey_0 : decode cX7_requireKey 0 = .ok (.iload_n 0, 1) := by decide +kernel
theorem dX7_requireKey_1 : decode cX7_requireKey 1 = .ok (.ifCond .lt 9, 3) := by decide +kernel
theorem dX7_requireKey_4 : decode cX7_requireKey 4 = .ok (.iload_n 0, 1) := by decide +kernel
theorem dX7_requireKey_5 : decode cX7_requireKey 5 = .ok (.ldc 178, 2) := by decide +kernel
theorem dX7_requireKey_7 : decode cX7_requireKey 7 = .ok (.if_icmp .le 13, 3) := by decide +kernel
theorem dX7_requireKey_10 : decode cX7_requireKey 10 = .ok (.new 94, 3) := by decide +kernel
theorem dX7_requireKey_13 : decode cX7_requireKey 13 = .ok (.dup, 1) := by decide +kernel
theorem dX7_requireKey_14 : decode cX7_requireKey 14 = .ok (.ldc 179, 2) := by decide +kernel
theorem dX7_requireKey_16 : decode cX7_requireKey 16 = .ok (.invokespecial 98, 3) := by decide +kernel
theorem dX7_requireKey_19 : decode cX7_requireKey 19 = .ok (.athrow, 1) := by decide +kernel
theorem dX7_requireKey_20 : decode cX7_requireKey 20 = .ok (.return_, 1) := by decide +kernel
set_option maxRecDepth 20000 in
theorem ggX7_requireLine_X7_requireKey : GoodIn wsX7_requireLine wsX7_requireKey := goodIn_ca (goodIn_r _ [6, 1, 2, 7] (by decide +kernel) (by decide +kernel)) (goodIn_sub (fun _ h => List.mem_cons_of_mem _ (List.mem_append_right _ h)) (by decide +kernel))
set_option maxRecDepth 20000 in
theorem gX7_requireLine_X7_requireKey : GoodIn wsX7_requireLine (va_wsS RX7 46 yX7_requireKey wsX7_requireKey) := goodIn_app (goodIn_of _ (by decide +kernel)) ggX7_requireLine_X7_requireKey
theorem dX7_requireLine_0 : decode cX7_requireLine 0 = .ok (.iload_n 0, 1) := by decide +kernel
theorem dX7_requireLine_1 : decode cX7_requireLine 1 = .ok (.invokestatic 46, 3) := by decide +kernel
theorem dX7_requireLine_4 : decode cX7_requireLine 4 = .ok (.iload_n 1, 1) := by decide +kernel
theorem dX7_requireLine_5 : decode cX7_requireLine 5 = .ok (.iconst 1, 1) := by decide +kernel
theorem dX7_requireLine_6 : decode cX7_requireLine 6 = .ok (.if_icmp .lt 10, 3) := by decide +kernel
theorem dX7_requireLine_9 : decode cX7_requireLine 9 = .ok (.iload_n 1, 1) := by decide +kernel
theorem dX7_requireLine_10 : decode cX7_requireLine 10 = .ok (.sipush 9999, 3) := by decide +kernel
theorem dX7_requireLine_13 : decode cX7_requireLine 13 = .ok (.if_icmp .le 13, 3) := by decide +kernel
theorem dX7_requireLine_16 : decode cX7_requireLine 16 = .ok (.new 94, 3) := by decide +kernel
theorem dX7_requireLine_19 : decode cX7_requireLine 19 = .ok (.dup, 1) := by decide +kernel
theorem dX7_requireLine_20 : decode cX7_requireLine 20 = .ok (.ldc 181, 2) := by decide +kernel
theorem dX7_requireLine_22 : decode cX7_requireLine 22 = .ok (.invokespecial 98, 3) := by decide +kernel
theorem dX7_requireLine_25 : decode cX7_requireLine 25 = .ok (.athrow, 1) := by decide +kernel
theorem dX7_requireLine_26 : decode cX7_requireLine 26 = .ok (.iload_n 2, 1) := by decide +kernel
theorem dX7_requireLine_27 : decode cX7_requireLine 27 = .ok (.iconst 1, 1) := by decide +kernel
theorem dX7_requireLine_28 : decode cX7_requireLine 28 = .ok (.if_icmp .lt 9, 3) := by decide +kernel
theorem dX7_requireLine_31 : decode cX7_requireLine 31 = .ok (.iload_n 2, 1) := by decide +kernel
theorem dX7_requireLine_32 : decode cX7_requireLine 32 = .ok (.bipush 40, 2) := by decide +kernel
theorem dX7_requireLine_34 : decode cX7_requireLine 34 = .ok (.if_icmp .le 13, 3) := by decide +kernel
theorem dX7_requireLine_37 : decode cX7_requireLine 37 = .ok (.new 94, 3) := by decide +kernel
theorem dX7_requireLine_40 : decode cX7_requireLine 40 = .ok (.dup, 1) := by decide +kernel
theorem dX7_requireLine_41 : decode cX7_requireLine 41 = .ok (.ldc 183, 2) := by decide +kernel
theorem dX7_requireLine_43 : decode cX7_requireLine 43 = .ok (.invokespecial 98, 3) := by decide +kernel
theorem dX7_requireLine_46 : decode cX7_requireLine 46 = .ok (.athrow, 1) := by decide +kernel
theorem dX7_requireLine_47 : decode cX7_requireLine 47 = .ok (.iload_n 0, 1) := by decide +kernel
theorem dX7_requireLine_48 : decode cX7_requireLine 48 = .ok (.iload_n 2, 1) := by decide +kernel
theorem dX7_requireLine_49 : decode cX7_requireLine 49 = .ok (.iconst 1, 1) := by decide +kernel
theorem dX7_requireLine_50 : decode cX7_requireLine 50 = .ok (.isub, 1) := by decide +kernel
theorem dX7_requireLine_51 : decode cX7_requireLine 51 = .ok (.iload_n 1, 1) := by decide +kernel
theorem dX7_requireLine_52 : decode cX7_requireLine 52 = .ok (.imul, 1) := by decide +kernel
theorem dX7_requireLine_53 : decode cX7_requireLine 53 = .ok (.iadd, 1) := by decide +kernel
theorem dX7_requireLine_54 : decode cX7_requireLine 54 = .ok (.invokestatic 46, 3) := by decide +kernel
theorem dX7_requireLine_57 : decode cX7_requireLine 57 = .ok (.return_, 1) := by decide +kernel
theorem dX7_requireBelow_0 : decode cX7_requireBelow 0 = .ok (.iload_n 0, 1) := by decide +kernel
theorem dX7_requireBelow_1 : decode cX7_requireBelow 1 = .ok (.ifCond .lt 8, 3) := by decide +kernel
theorem dX7_requireBelow_4 : decode cX7_requireBelow 4 = .ok (.iload_n 0, 1) := by decide +kernel
theorem dX7_requireBelow_5 : decode cX7_requireBelow 5 = .ok (.iload_n 1, 1) := by decide +kernel
theorem dX7_requireBelow_6 : decode cX7_requireBelow 6 = .ok (.if_icmp .lt 13, 3) := by decide +kernel
theorem dX7_requireBelow_9 : decode cX7_requireBelow 9 = .ok (.new 185, 3) := by decide +kernel
theorem dX7_requireBelow_12 : decode cX7_requireBelow 12 = .ok (.dup, 1) := by decide +kernel
theorem dX7_requireBelow_13 : decode cX7_requireBelow 13 = .ok (.ldc 187, 2) := by decide +kernel
theorem dX7_requireBelow_15 : decode cX7_requireBelow 15 = .ok (.invokespecial 189, 3) := by decide +kernel
theorem dX7_requireBelow_18 : decode cX7_requireBelow 18 = .ok (.athrow, 1) := by decide +kernel
theorem dX7_requireBelow_19 : decode cX7_requireBelow 19 = .ok (.return_, 1) := by decide +kernel
theorem dX7_requireRoomFor_0 : decode cX7_requireRoomFor 0 = .ok (.aload_n 0, 1) := by decide +kernel
theorem dX7_requireRoomFor_1 : decode cX7_requireRoomFor 1 = .ok (.getfield 10, 3) := by decide +kernel
theorem dX7_requireRoomFor_4 : decode cX7_requireRoomFor 4 = .ok (.getfield 69, 3) := by decide +kernel
theorem dX7_requireRoomFor_7 : decode cX7_requireRoomFor 7 = .ok (.iload_n 1, 1) := by decide +kernel
theorem dX7_requireRoomFor_8 : decode cX7_requireRoomFor 8 = .ok (.iadd, 1) := by decide +kernel
theorem dX7_requireRoomFor_9 : decode cX7_requireRoomFor 9 = .ok (.bipush 120, 2) := by decide +kernel
theorem dX7_requireRoomFor_11 : decode cX7_requireRoomFor 11 = .ok (.if_icmp .le 13, 3) := by decide +kernel
theorem dX7_requireRoomFor_14 : decode cX7_requireRoomFor 14 = .ok (.new 56, 3) := by decide +kernel
theorem dX7_requireRoomFor_17 : decode cX7_requireRoomFor 17 = .ok (.dup, 1) := by decide +kernel
theorem dX7_requireRoomFor_18 : decode cX7_requireRoomFor 18 = .ok (.ldc 190, 2) := by decide +kernel
theorem dX7_requireRoomFor_20 : decode cX7_requireRoomFor 20 = .ok (.invokespecial 60, 3) := by decide +kernel
theorem dX7_requireRoomFor_23 : decode cX7_requireRoomFor 23 = .ok (.athrow, 1) := by decide +kernel
theorem dX7_requireRoomFor_24 : decode cX7_requireRoomFor 24 = .ok (.return_, 1) := by decide +kernel
theorem dX7_requireOpen_0 : decode cX7_requireOpen 0 = .ok (.aload_n 0, 1) := by decide +kernel
theorem dX7_requireOpen_1 : decode cX7_requireOpen 1 = .ok (.getfield 125, 3) := by decide +kernel
theorem dX7_requireOpen_4 : decode cX7_requireOpen 4 = .ok (.ifCond .eq 13, 3) := by decide +kernel
theorem dX7_requireOpen_7 : decode cX7_requireOpen 7 = .ok (.new 56, 3) := by decide +kernel
theorem dX7_requireOpen_10 : decode cX7_requireOpen 10 = .ok (.dup, 1) := by decide +kernel
theorem dX7_requireOpen_11 : decode cX7_requireOpen 11 = .ok (.ldc 192, 2) := by decide +kernel
theorem dX7_requireOpen_13 : decode cX7_requireOpen 13 = .ok (.invokespecial 60, 3) := by decide +kernel
theorem dX7_requireOpen_16 : decode cX7_requireOpen 16 = .ok (.athrow, 1) := by decide +kernel
theorem dX7_requireOpen_17 : decode cX7_requireOpen 17 = .ok (.return_, 1) := by decide +kernel
theorem dX7_requireBuilt_0 : decode cX7_requireBuilt 0 = .ok (.aload_n 0, 1) := by decide +kernel
theorem dX7_requireBuilt_1 : decode cX7_requireBuilt 1 = .ok (.getfield 125, 3) := by decide +kernel
theorem dX7_requireBuilt_4 : decode cX7_requireBuilt 4 = .ok (.ifCond .ne 13, 3) := by decide +kernel
theorem dX7_requireBuilt_7 : decode cX7_requireBuilt 7 = .ok (.new 56, 3) := by decide +kernel
theorem dX7_requireBuilt_10 : decode cX7_requireBuilt 10 = .ok (.dup, 1) := by decide +kernel
theorem dX7_requireBuilt_11 : decode cX7_requireBuilt 11 = .ok (.ldc 194, 2) := by decide +kernel
theorem dX7_requireBuilt_13 : decode cX7_requireBuilt 13 = .ok (.invokespecial 60, 3) := by decide +kernel
theorem dX7_requireBuilt_16 : decode cX7_requireBuilt 16 = .ok (.athrow, 1) := by decide +kernel
theorem dX7_requireBuilt_17 : decode cX7_requireBuilt 17 = .ok (.return_, 1) := by decide +kernel
set_option maxRecDepth 20000 in
theorem ggX7_newInLine_X4_holds : GoodIn wsX7_newInLine wsX4_holds := goodIn_r _ [5, 6, 7, 8, 9, 10, 3, 11, 12, 13, 14, 15, 16, 24, 25, 26] (by decide +kernel) (by decide +kernel)
set_option maxRecDepth 20000 in
theorem gX7_newInLine_X4_holds_n52 : GoodIn wsX7_newInLine (wsX4_holds) := ggX7_newInLine_X4_holds
theorem dX7_newInLine_0 : decode cX7_newInLine 0 = .ok (.iconst 0, 1) := by decide +kernel
theorem dX7_newInLine_1 : decode cX7_newInLine 1 = .ok (.istore 4, 2) := by decide +kernel
theorem dX7_newInLine_3 : decode cX7_newInLine 3 = .ok (.iconst 0, 1) := by decide +kernel
theorem dX7_newInLine_4 : decode cX7_newInLine 4 = .ok (.istore 5, 2) := by decide +kernel
theorem dX7_newInLine_6 : decode cX7_newInLine 6 = .ok (.iload 5, 2) := by decide +kernel
theorem dX7_newInLine_8 : decode cX7_newInLine 8 = .ok (.iload_n 3, 1) := by decide +kernel
theorem dX7_newInLine_9 : decode cX7_newInLine 9 = .ok (.if_icmp .ge 28, 3) := by decide +kernel
theorem dX7_newInLine_12 : decode cX7_newInLine 12 = .ok (.aload_n 0, 1) := by decide +kernel
theorem dX7_newInLine_13 : decode cX7_newInLine 13 = .ok (.getfield 10, 3) := by decide +kernel
theorem dX7_newInLine_16 : decode cX7_newInLine 16 = .ok (.iload_n 1, 1) := by decide +kernel
theorem dX7_newInLine_17 : decode cX7_newInLine 17 = .ok (.iload 5, 2) := by decide +kernel
theorem dX7_newInLine_19 : decode cX7_newInLine 19 = .ok (.iload_n 2, 1) := by decide +kernel
theorem dX7_newInLine_20 : decode cX7_newInLine 20 = .ok (.imul, 1) := by decide +kernel
theorem dX7_newInLine_21 : decode cX7_newInLine 21 = .ok (.iadd, 1) := by decide +kernel
theorem dX7_newInLine_22 : decode cX7_newInLine 22 = .ok (.invokevirtual 52, 3) := by decide +kernel
theorem dX7_newInLine_25 : decode cX7_newInLine 25 = .ok (.ifCond .ne 6, 3) := by decide +kernel
theorem dX7_newInLine_28 : decode cX7_newInLine 28 = .ok (.iinc 4 1, 3) := by decide +kernel
theorem dX7_newInLine_31 : decode cX7_newInLine 31 = .ok (.iinc 5 1, 3) := by decide +kernel
theorem dX7_newInLine_34 : decode cX7_newInLine 34 = .ok (.goto (-28), 3) := by decide +kernel
theorem dX7_newInLine_37 : decode cX7_newInLine 37 = .ok (.iload 4, 2) := by decide +kernel
theorem dX7_newInLine_39 : decode cX7_newInLine 39 = .ok (.ireturn, 1) := by decide +kernel
set_option maxRecDepth 20000 in
theorem ggX7_keepFingerprints_X7_keyWithNumber : GoodIn wsX7_keepFingerprints wsX7_keyWithNumber := goodIn_r _ [8, 2, 9, 10, 11, 12, 13, 14, 15, 16, 17, 18, 19, 36, 37, 38, 39, 40, 41, 42, 45, 46, 47, 48, 49, 50, 51, 52, 53, 54, 43, 44] (by decide +kernel) (by decide +kernel)
set_option maxRecDepth 20000 in
theorem gX7_keepFingerprints_X7_keyWithNumber : GoodIn wsX7_keepFingerprints (wsV RX7 143 RX7 yX7_keyWithNumber wsX7_keyWithNumber) := goodIn_app (goodIn_of _ (by decide +kernel)) ggX7_keepFingerprints_X7_keyWithNumber
set_option maxRecDepth 20000 in
theorem ggX7_keepFingerprints_X7_fingerprintOf : GoodIn wsX7_keepFingerprints wsX7_fingerprintOf := goodIn_r _ [23, 24, 9, 1, 25, 26, 27, 28, 29, 30, 31, 32, 36, 37, 38, 39, 40, 41, 42, 45, 46, 47, 48, 49, 50, 51, 52, 53] (by decide +kernel) (by decide +kernel)
set_option maxRecDepth 20000 in
theorem gX7_keepFingerprints_X7_fingerprintOf : GoodIn wsX7_keepFingerprints (wsV RX7 199 RX7 yX7_fingerprintOf wsX7_fingerprintOf) := goodIn_app (goodIn_of _ (by decide +kernel)) ggX7_keepFingerprints_X7_fingerprintOf
set_option maxRecDepth 20000 in
theorem ggX7_keepFingerprints_X6_set : GoodIn wsX7_keepFingerprints wsX6_set := goodIn_r _ [35, 14, 54] (by decide +kernel) (by decide +kernel)
set_option maxRecDepth 20000 in
theorem gX7_keepFingerprints_X6_set_n202 : GoodIn wsX7_keepFingerprints (wsX6_set) := ggX7_keepFingerprints_X6_set
theorem dX7_keepFingerprints_0 : decode cX7_keepFingerprints 0 = .ok (.aload_n 0, 1) := by decide +kernel
theorem dX7_keepFingerprints_1 : decode cX7_keepFingerprints 1 = .ok (.iconst 1, 1) := by decide +kernel
theorem dX7_keepFingerprints_2 : decode cX7_keepFingerprints 2 = .ok (.iload_n 1, 1) := by decide +kernel
theorem dX7_keepFingerprints_3 : decode cX7_keepFingerprints 3 = .ok (.ishl, 1) := by decide +kernel
theorem dX7_keepFingerprints_4 : decode cX7_keepFingerprints 4 = .ok (.iconst 1, 1) := by decide +kernel
theorem dX7_keepFingerprints_5 : decode cX7_keepFingerprints 5 = .ok (.isub, 1) := by decide +kernel
theorem dX7_keepFingerprints_6 : decode cX7_keepFingerprints 6 = .ok (.putfield 196, 3) := by decide +kernel
theorem dX7_keepFingerprints_9 : decode cX7_keepFingerprints 9 = .ok (.iconst 0, 1) := by decide +kernel
theorem dX7_keepFingerprints_10 : decode cX7_keepFingerprints 10 = .ok (.istore_n 2, 1) := by decide +kernel
theorem dX7_keepFingerprints_11 : decode cX7_keepFingerprints 11 = .ok (.iload_n 2, 1) := by decide +kernel
theorem dX7_keepFingerprints_12 : decode cX7_keepFingerprints 12 = .ok (.aload_n 0, 1) := by decide +kernel
theorem dX7_keepFingerprints_13 : decode cX7_keepFingerprints 13 = .ok (.getfield 10, 3) := by decide +kernel
theorem dX7_keepFingerprints_16 : decode cX7_keepFingerprints 16 = .ok (.getfield 69, 3) := by decide +kernel
theorem dX7_keepFingerprints_19 : decode cX7_keepFingerprints 19 = .ok (.if_icmp .ge 26, 3) := by decide +kernel
theorem dX7_keepFingerprints_22 : decode cX7_keepFingerprints 22 = .ok (.aload_n 0, 1) := by decide +kernel
theorem dX7_keepFingerprints_23 : decode cX7_keepFingerprints 23 = .ok (.getfield 42, 3) := by decide +kernel
theorem dX7_keepFingerprints_26 : decode cX7_keepFingerprints 26 = .ok (.iload_n 2, 1) := by decide +kernel
theorem dX7_keepFingerprints_27 : decode cX7_keepFingerprints 27 = .ok (.aload_n 0, 1) := by decide +kernel
theorem dX7_keepFingerprints_28 : decode cX7_keepFingerprints 28 = .ok (.aload_n 0, 1) := by decide +kernel
theorem dX7_keepFingerprints_29 : decode cX7_keepFingerprints 29 = .ok (.iload_n 2, 1) := by decide +kernel
theorem dX7_keepFingerprints_30 : decode cX7_keepFingerprints 30 = .ok (.invokevirtual 143, 3) := by decide +kernel
theorem dX7_keepFingerprints_33 : decode cX7_keepFingerprints 33 = .ok (.invokevirtual 199, 3) := by decide +kernel
theorem dX7_keepFingerprints_36 : decode cX7_keepFingerprints 36 = .ok (.invokevirtual 202, 3) := by decide +kernel
theorem dX7_keepFingerprints_39 : decode cX7_keepFingerprints 39 = .ok (.iinc 2 1, 3) := by decide +kernel
theorem dX7_keepFingerprints_42 : decode cX7_keepFingerprints 42 = .ok (.goto (-31), 3) := by decide +kernel
theorem dX7_keepFingerprints_45 : decode cX7_keepFingerprints 45 = .ok (.return_, 1) := by decide +kernel
set_option maxRecDepth 20000 in
theorem ggX7_fingerprintOf_X3_of : GoodIn wsX7_fingerprintOf wsX3_of := goodIn_r _ [7, 8, 9, 10, 11] (by decide +kernel) (by decide +kernel)
set_option maxRecDepth 20000 in
theorem gX7_fingerprintOf_X3_of_n211 : GoodIn wsX7_fingerprintOf (wsX3_of) := ggX7_fingerprintOf_X3_of
theorem dX7_fingerprintOf_0 : decode cX7_fingerprintOf 0 = .ok (.getstatic 205, 3) := by decide +kernel
theorem dX7_fingerprintOf_3 : decode cX7_fingerprintOf 3 = .ok (.iload_n 1, 1) := by decide +kernel
theorem dX7_fingerprintOf_4 : decode cX7_fingerprintOf 4 = .ok (.aload_n 0, 1) := by decide +kernel
theorem dX7_fingerprintOf_5 : decode cX7_fingerprintOf 5 = .ok (.getfield 19, 3) := by decide +kernel
theorem dX7_fingerprintOf_8 : decode cX7_fingerprintOf 8 = .ok (.getfield 129, 3) := by decide +kernel
theorem dX7_fingerprintOf_11 : decode cX7_fingerprintOf 11 = .ok (.invokevirtual 211, 3) := by decide +kernel
theorem dX7_fingerprintOf_14 : decode cX7_fingerprintOf 14 = .ok (.aload_n 0, 1) := by decide +kernel
theorem dX7_fingerprintOf_15 : decode cX7_fingerprintOf 15 = .ok (.getfield 196, 3) := by decide +kernel
theorem dX7_fingerprintOf_18 : decode cX7_fingerprintOf 18 = .ok (.iand, 1) := by decide +kernel
theorem dX7_fingerprintOf_19 : decode cX7_fingerprintOf 19 = .ok (.ireturn, 1) := by decide +kernel
set_option maxRecDepth 20000 in
theorem ggX7_keyWithNumber_X6_get : GoodIn wsX7_keyWithNumber wsX6_get := goodIn_r _ [6, 7, 29] (by decide +kernel) (by decide +kernel)
set_option maxRecDepth 20000 in
theorem gX7_keyWithNumber_X6_get_n146 : GoodIn wsX7_keyWithNumber (wsX6_get) := ggX7_keyWithNumber_X6_get
set_option maxRecDepth 20000 in
theorem ggX7_keyWithNumber_X4_at : GoodIn wsX7_keyWithNumber wsX4_at := goodIn_r _ [11, 12, 3, 4, 5, 6, 7, 30, 31, 29] (by decide +kernel) (by decide +kernel)
set_option maxRecDepth 20000 in
theorem gX7_keyWithNumber_X4_at_n90 : GoodIn wsX7_keyWithNumber (wsX4_at) := ggX7_keyWithNumber_X4_at
theorem dX7_keyWithNumber_0 : decode cX7_keyWithNumber 0 = .ok (.aload_n 0, 1) := by decide +kernel
theorem dX7_keyWithNumber_1 : decode cX7_keyWithNumber 1 = .ok (.getfield 10, 3) := by decide +kernel
theorem dX7_keyWithNumber_4 : decode cX7_keyWithNumber 4 = .ok (.aload_n 0, 1) := by decide +kernel
theorem dX7_keyWithNumber_5 : decode cX7_keyWithNumber 5 = .ok (.getfield 19, 3) := by decide +kernel
theorem dX7_keyWithNumber_8 : decode cX7_keyWithNumber 8 = .ok (.getfield 215, 3) := by decide +kernel
theorem dX7_keyWithNumber_11 : decode cX7_keyWithNumber 11 = .ok (.iload_n 1, 1) := by decide +kernel
theorem dX7_keyWithNumber_12 : decode cX7_keyWithNumber 12 = .ok (.invokevirtual 146, 3) := by decide +kernel
theorem dX7_keyWithNumber_15 : decode cX7_keyWithNumber 15 = .ok (.invokevirtual 90, 3) := by decide +kernel
theorem dX7_keyWithNumber_18 : decode cX7_keyWithNumber 18 = .ok (.ireturn, 1) := by decide +kernel
set_option maxRecDepth 20000 in
theorem ggX7_lookUp_X0_numberOf : GoodIn wsX7_lookUp wsX0_numberOf := goodIn_r _ [6, 7, 8, 9, 10, 11, 12, 13, 4, 14, 15, 16, 17, 18, 19, 20, 21, 22, 23, 24, 25, 26, 27, 28, 29, 30, 31, 32, 33, 34, 35, 36, 37, 51, 52, 53, 54, 55, 56, 57, 58, 59, 60] (by decide +kernel) (by decide +kernel)
set_option maxRecDepth 20000 in
theorem gX7_lookUp_X0_numberOf_n135 : GoodIn wsX7_lookUp (wsX0_numberOf) := ggX7_lookUp_X0_numberOf
set_option maxRecDepth 20000 in
theorem ggX7_lookUp_X6_get : GoodIn wsX7_lookUp wsX6_get := goodIn_r _ [31, 32, 60] (by decide +kernel) (by decide +kernel)
set_option maxRecDepth 20000 in
theorem gX7_lookUp_X6_get_n146 : GoodIn wsX7_lookUp (wsX6_get) := ggX7_lookUp_X6_get
set_option maxRecDepth 20000 in
theorem ggX7_lookUp_X7_fingerprintOf : GoodIn wsX7_lookUp wsX7_fingerprintOf := goodIn_r _ [41, 42, 1, 43, 17, 18, 19, 20, 21, 22, 23, 24, 44, 45, 46, 47, 48, 49, 50, 51, 52, 53, 54, 55, 56, 57, 58, 59] (by decide +kernel) (by decide +kernel)
set_option maxRecDepth 20000 in
theorem gX7_lookUp_X7_fingerprintOf : GoodIn wsX7_lookUp (wsV RX7 199 RX7 yX7_fingerprintOf wsX7_fingerprintOf) := goodIn_app (goodIn_of _ (by decide +kernel)) ggX7_lookUp_X7_fingerprintOf
theorem dX7_lookUp_0 : decode cX7_lookUp 0 = .ok (.aload_n 0, 1) := by decide +kernel
theorem dX7_lookUp_1 : decode cX7_lookUp 1 = .ok (.getfield 19, 3) := by decide +kernel
theorem dX7_lookUp_4 : decode cX7_lookUp 4 = .ok (.iload_n 1, 1) := by decide +kernel
theorem dX7_lookUp_5 : decode cX7_lookUp 5 = .ok (.invokevirtual 135, 3) := by decide +kernel
theorem dX7_lookUp_8 : decode cX7_lookUp 8 = .ok (.istore_n 2, 1) := by decide +kernel
theorem dX7_lookUp_9 : decode cX7_lookUp 9 = .ok (.aload_n 0, 1) := by decide +kernel
theorem dX7_lookUp_10 : decode cX7_lookUp 10 = .ok (.getfield 42, 3) := by decide +kernel
theorem dX7_lookUp_13 : decode cX7_lookUp 13 = .ok (.iload_n 2, 1) := by decide +kernel
theorem dX7_lookUp_14 : decode cX7_lookUp 14 = .ok (.invokevirtual 146, 3) := by decide +kernel
theorem dX7_lookUp_17 : decode cX7_lookUp 17 = .ok (.aload_n 0, 1) := by decide +kernel
theorem dX7_lookUp_18 : decode cX7_lookUp 18 = .ok (.iload_n 1, 1) := by decide +kernel
theorem dX7_lookUp_19 : decode cX7_lookUp 19 = .ok (.invokevirtual 199, 3) := by decide +kernel
theorem dX7_lookUp_22 : decode cX7_lookUp 22 = .ok (.if_icmp .ne 7, 3) := by decide +kernel
theorem dX7_lookUp_25 : decode cX7_lookUp 25 = .ok (.iload_n 2, 1) := by decide +kernel
theorem dX7_lookUp_26 : decode cX7_lookUp 26 = .ok (.goto 4, 3) := by decide +kernel
theorem dX7_lookUp_29 : decode cX7_lookUp 29 = .ok (.iconst (-1), 1) := by decide +kernel
theorem dX7_lookUp_30 : decode cX7_lookUp 30 = .ok (.ireturn, 1) := by decide +kernel
theorem dX7_remainder_0 : decode cX7_remainder 0 = .ok (.iload_n 1, 1) := by decide +kernel
theorem dX7_remainder_1 : decode cX7_remainder 1 = .ok (.ifCond .le 9, 3) := by decide +kernel
theorem dX7_remainder_4 : decode cX7_remainder 4 = .ok (.iload_n 0, 1) := by decide +kernel
theorem dX7_remainder_5 : decode cX7_remainder 5 = .ok (.iload_n 1, 1) := by decide +kernel
theorem dX7_remainder_6 : decode cX7_remainder 6 = .ok (.irem, 1) := by decide +kernel
theorem dX7_remainder_7 : decode cX7_remainder 7 = .ok (.goto 4, 3) := by decide +kernel
theorem dX7_remainder_10 : decode cX7_remainder 10 = .ok (.iconst 0, 1) := by decide +kernel
theorem dX7_remainder_11 : decode cX7_remainder 11 = .ok (.ireturn, 1) := by decide +kernel
theorem dX7_dividedUp_0 : decode cX7_dividedUp 0 = .ok (.iload_n 1, 1) := by decide +kernel
theorem dX7_dividedUp_1 : decode cX7_dividedUp 1 = .ok (.ifCond .le 13, 3) := by decide +kernel
theorem dX7_dividedUp_4 : decode cX7_dividedUp 4 = .ok (.iload_n 0, 1) := by decide +kernel
theorem dX7_dividedUp_5 : decode cX7_dividedUp 5 = .ok (.iload_n 1, 1) := by decide +kernel
theorem dX7_dividedUp_6 : decode cX7_dividedUp 6 = .ok (.iadd, 1) := by decide +kernel
theorem dX7_dividedUp_7 : decode cX7_dividedUp 7 = .ok (.iconst 1, 1) := by decide +kernel
theorem dX7_dividedUp_8 : decode cX7_dividedUp 8 = .ok (.isub, 1) := by decide +kernel
theorem dX7_dividedUp_9 : decode cX7_dividedUp 9 = .ok (.iload_n 1, 1) := by decide +kernel
theorem dX7_dividedUp_10 : decode cX7_dividedUp 10 = .ok (.idiv, 1) := by decide +kernel
theorem dX7_dividedUp_11 : decode cX7_dividedUp 11 = .ok (.goto 4, 3) := by decide +kernel
theorem dX7_dividedUp_14 : decode cX7_dividedUp 14 = .ok (.iconst 0, 1) := by decide +kernel
theorem dX7_dividedUp_15 : decode cX7_dividedUp 15 = .ok (.ireturn, 1) := by decide +kernel
theorem dX8_init_0 : decode cX8_init 0 = .ok (.aload_n 0, 1) := by decide +kernel
theorem dX8_init_1 : decode cX8_init 1 = .ok (.invokespecial 1, 3) := by decide +kernel
theorem dX8_init_4 : decode cX8_init 4 = .ok (.aload_n 0, 1) := by decide +kernel
theorem dX8_init_5 : decode cX8_init 5 = .ok (.bipush 120, 2) := by decide +kernel
theorem dX8_init_7 : decode cX8_init 7 = .ok (.newarray .int, 2) := by decide +kernel
theorem dX8_init_9 : decode cX8_init 9 = .ok (.putfield 7, 3) := by decide +kernel
theorem dX8_init_12 : decode cX8_init 12 = .ok (.aload_n 0, 1) := by decide +kernel
theorem dX8_init_13 : decode cX8_init 13 = .ok (.bipush 120, 2) := by decide +kernel
theorem dX8_init_15 : decode cX8_init 15 = .ok (.newarray .int, 2) := by decide +kernel
theorem dX8_init_17 : decode cX8_init 17 = .ok (.putfield 13, 3) := by decide +kernel
theorem dX8_init_20 : decode cX8_init 20 = .ok (.aload_n 0, 1) := by decide +kernel
theorem dX8_init_21 : decode cX8_init 21 = .ok (.bipush 120, 2) := by decide +kernel
theorem dX8_init_23 : decode cX8_init 23 = .ok (.newarray .int, 2) := by decide +kernel
theorem dX8_init_25 : decode cX8_init 25 = .ok (.putfield 16, 3) := by decide +kernel
theorem dX8_init_28 : decode cX8_init 28 = .ok (.aload_n 0, 1) := by decide +kernel
theorem dX8_init_29 : decode cX8_init 29 = .ok (.bipush 120, 2) := by decide +kernel
theorem dX8_init_31 : decode cX8_init 31 = .ok (.newarray .int, 2) := by decide +kernel
theorem dX8_init_33 : decode cX8_init 33 = .ok (.putfield 19, 3) := by decide +kernel
theorem dX8_init_36 : decode cX8_init 36 = .ok (.aload_n 0, 1) := by decide +kernel
theorem dX8_init_37 : decode cX8_init 37 = .ok (.bipush 120, 2) := by decide +kernel
theorem dX8_init_39 : decode cX8_init 39 = .ok (.newarray .int, 2) := by decide +kernel
theorem dX8_init_41 : decode cX8_init 41 = .ok (.putfield 22, 3) := by decide +kernel
theorem dX8_init_44 : decode cX8_init 44 = .ok (.aload_n 0, 1) := by decide +kernel
theorem dX8_init_45 : decode cX8_init 45 = .ok (.bipush 120, 2) := by decide +kernel
theorem dX8_init_47 : decode cX8_init 47 = .ok (.newarray .int, 2) := by decide +kernel
theorem dX8_init_49 : decode cX8_init 49 = .ok (.putfield 25, 3) := by decide +kernel
theorem dX8_init_52 : decode cX8_init 52 = .ok (.aload_n 0, 1) := by decide +kernel
theorem dX8_init_53 : decode cX8_init 53 = .ok (.bipush 120, 2) := by decide +kernel
theorem dX8_init_55 : decode cX8_init 55 = .ok (.newarray .int, 2) := by decide +kernel
theorem dX8_init_57 : decode cX8_init 57 = .ok (.putfield 28, 3) := by decide +kernel
theorem dX8_init_60 : decode cX8_init 60 = .ok (.aload_n 0, 1) := by decide +kernel
theorem dX8_init_61 : decode cX8_init 61 = .ok (.bipush 120, 2) := by decide +kernel
theorem dX8_init_63 : decode cX8_init 63 = .ok (.newarray .int, 2) := by decide +kernel
theorem dX8_init_65 : decode cX8_init 65 = .ok (.putfield 31, 3) := by decide +kernel
theorem dX8_init_68 : decode cX8_init 68 = .ok (.aload_n 0, 1) := by decide +kernel
theorem dX8_init_69 : decode cX8_init 69 = .ok (.bipush 20, 2) := by decide +kernel
theorem dX8_init_71 : decode cX8_init 71 = .ok (.newarray .long, 2) := by decide +kernel
theorem dX8_init_73 : decode cX8_init 73 = .ok (.putfield 34, 3) := by decide +kernel
theorem dX8_init_76 : decode cX8_init 76 = .ok (.aload_n 0, 1) := by decide +kernel
theorem dX8_init_77 : decode cX8_init 77 = .ok (.sipush 360, 3) := by decide +kernel
theorem dX8_init_80 : decode cX8_init 80 = .ok (.newarray .int, 2) := by decide +kernel
theorem dX8_init_82 : decode cX8_init 82 = .ok (.putfield 38, 3) := by decide +kernel
theorem dX8_init_85 : decode cX8_init 85 = .ok (.aload_n 0, 1) := by decide +kernel
theorem dX8_init_86 : decode cX8_init 86 = .ok (.sipush 360, 3) := by decide +kernel
theorem dX8_init_89 : decode cX8_init 89 = .ok (.newarray .int, 2) := by decide +kernel
theorem dX8_init_91 : decode cX8_init 91 = .ok (.putfield 41, 3) := by decide +kernel
theorem dX8_init_94 : decode cX8_init 94 = .ok (.aload_n 0, 1) := by decide +kernel
theorem dX8_init_95 : decode cX8_init 95 = .ok (.sipush 240, 3) := by decide +kernel
theorem dX8_init_98 : decode cX8_init 98 = .ok (.newarray .int, 2) := by decide +kernel
theorem dX8_init_100 : decode cX8_init 100 = .ok (.putfield 44, 3) := by decide +kernel
theorem dX8_init_103 : decode cX8_init 103 = .ok (.return_, 1) := by decide +kernel
theorem dX8_thrown_0 : decode cX8_thrown 0 = .ok (.aload_n 0, 1) := by decide +kernel
theorem dX8_thrown_1 : decode cX8_thrown 1 = .ok (.getfield 47, 3) := by decide +kernel
theorem dX8_thrown_4 : decode cX8_thrown 4 = .ok (.ireturn, 1) := by decide +kernel
theorem dX8_fails_0 : decode cX8_fails 0 = .ok (.aload_n 0, 1) := by decide +kernel
theorem dX8_fails_1 : decode cX8_fails 1 = .ok (.iload_n 1, 1) := by decide +kernel
theorem dX8_fails_2 : decode cX8_fails 2 = .ok (.putfield 47, 3) := by decide +kernel
theorem dX8_fails_5 : decode cX8_fails 5 = .ok (.iconst 0, 1) := by decide +kernel
theorem dX8_fails_6 : decode cX8_fails 6 = .ok (.ireturn, 1) := by decide +kernel
theorem dX8_in_0 : decode cX8_in 0 = .ok (.iload_n 0, 1) := by decide +kernel
theorem dX8_in_1 : decode cX8_in 1 = .ok (.iload_n 1, 1) := by decide +kernel
theorem dX8_in_2 : decode cX8_in 2 = .ok (.if_icmp .lt 12, 3) := by decide +kernel
theorem dX8_in_5 : decode cX8_in 5 = .ok (.iload_n 0, 1) := by decide +kernel
theorem dX8_in_6 : decode cX8_in 6 = .ok (.iload_n 2, 1) := by decide +kernel
theorem dX8_in_7 : decode cX8_in 7 = .ok (.if_icmp .gt 7, 3) := by decide +kernel
theorem dX8_in_10 : decode cX8_in 10 = .ok (.iconst 1, 1) := by decide +kernel
theorem dX8_in_11 : decode cX8_in 11 = .ok (.goto 4, 3) := by decide +kernel
theorem dX8_in_14 : decode cX8_in 14 = .ok (.iconst 0, 1) := by decide +kernel
theorem dX8_in_15 : decode cX8_in 15 = .ok (.ireturn, 1) := by decide +kernel
theorem dX8_first_0 : decode cX8_first 0 = .ok (.iload_n 0, 1) := by decide +kernel
theorem dX8_first_1 : decode cX8_first 1 = .ok (.ifCond .ne 9, 3) := by decide +kernel
theorem dX8_first_4 : decode cX8_first 4 = .ok (.ldc2_w 51, 3) := by decide +kernel
theorem dX8_first_7 : decode cX8_first 7 = .ok (.goto 50, 3) := by decide +kernel
theorem dX8_first_10 : decode cX8_first 10 = .ok (.iload_n 0, 1) := by decide +kernel
theorem dX8_first_11 : decode cX8_first 11 = .ok (.iconst 1, 1) := by decide +kernel
theorem dX8_first_12 : decode cX8_first 12 = .ok (.if_icmp .ne 9, 3) := by decide +kernel
theorem dX8_first_15 : decode cX8_first 15 = .ok (.ldc2_w 53, 3) := by decide +kernel
theorem dX8_first_18 : decode cX8_first 18 = .ok (.goto 39, 3) := by decide +kernel
theorem dX8_first_21 : decode cX8_first 21 = .ok (.iload_n 0, 1) := by decide +kernel
theorem dX8_first_22 : decode cX8_first 22 = .ok (.iconst 2, 1) := by decide +kernel
theorem dX8_first_23 : decode cX8_first 23 = .ok (.if_icmp .ne 9, 3) := by decide +kernel
theorem dX8_first_26 : decode cX8_first 26 = .ok (.ldc2_w 55, 3) := by decide +kernel
theorem dX8_first_29 : decode cX8_first 29 = .ok (.goto 28, 3) := by decide +kernel
theorem dX8_first_32 : decode cX8_first 32 = .ok (.iload_n 0, 1) := by decide +kernel
theorem dX8_first_33 : decode cX8_first 33 = .ok (.iconst 3, 1) := by decide +kernel
theorem dX8_first_34 : decode cX8_first 34 = .ok (.if_icmp .ne 9, 3) := by decide +kernel
theorem dX8_first_37 : decode cX8_first 37 = .ok (.ldc2_w 57, 3) := by decide +kernel
theorem dX8_first_40 : decode cX8_first 40 = .ok (.goto 17, 3) := by decide +kernel
theorem dX8_first_43 : decode cX8_first 43 = .ok (.iload_n 0, 1) := by decide +kernel
theorem dX8_first_44 : decode cX8_first 44 = .ok (.iconst 4, 1) := by decide +kernel
theorem dX8_first_45 : decode cX8_first 45 = .ok (.if_icmp .ne 9, 3) := by decide +kernel
theorem dX8_first_48 : decode cX8_first 48 = .ok (.ldc2_w 59, 3) := by decide +kernel
theorem dX8_first_51 : decode cX8_first 51 = .ok (.goto 6, 3) := by decide +kernel
theorem dX8_first_54 : decode cX8_first 54 = .ok (.ldc2_w 61, 3) := by decide +kernel
theorem dX8_first_57 : decode cX8_first 57 = .ok (.lreturn, 1) := by decide +kernel
theorem dX8_second_0 : decode cX8_second 0 = .ok (.iload_n 0, 1) := by decide +kernel
theorem dX8_second_1 : decode cX8_second 1 = .ok (.ifCond .ne 9, 3) := by decide +kernel
theorem dX8_second_4 : decode cX8_second 4 = .ok (.ldc2_w 63, 3) := by decide +kernel
theorem dX8_second_7 : decode cX8_second 7 = .ok (.goto 50, 3) := by decide +kernel
theorem dX8_second_10 : decode cX8_second 10 = .ok (.iload_n 0, 1) := by decide +kernel
theorem dX8_second_11 : decode cX8_second 11 = .ok (.iconst 1, 1) := by decide +kernel
theorem dX8_second_12 : decode cX8_second 12 = .ok (.if_icmp .ne 9, 3) := by decide +kernel
theorem dX8_second_15 : decode cX8_second 15 = .ok (.ldc2_w 65, 3) := by decide +kernel
theorem dX8_second_18 : decode cX8_second 18 = .ok (.goto 39, 3) := by decide +kernel
theorem dX8_second_21 : decode cX8_second 21 = .ok (.iload_n 0, 1) := by decide +kernel
theorem dX8_second_22 : decode cX8_second 22 = .ok (.iconst 2, 1) := by decide +kernel
theorem dX8_second_23 : decode cX8_second 23 = .ok (.if_icmp .ne 9, 3) := by decide +kernel
theorem dX8_second_26 : decode cX8_second 26 = .ok (.ldc2_w 67, 3) := by decide +kernel
theorem dX8_second_29 : decode cX8_second 29 = .ok (.goto 28, 3) := by decide +kernel
theorem dX8_second_32 : decode cX8_second 32 = .ok (.iload_n 0, 1) := by decide +kernel
theorem dX8_second_33 : decode cX8_second 33 = .ok (.iconst 3, 1) := by decide +kernel
theorem dX8_second_34 : decode cX8_second 34 = .ok (.if_icmp .ne 9, 3) := by decide +kernel
theorem dX8_second_37 : decode cX8_second 37 = .ok (.ldc2_w 69, 3) := by decide +kernel
theorem dX8_second_40 : decode cX8_second 40 = .ok (.goto 17, 3) := by decide +kernel
theorem dX8_second_43 : decode cX8_second 43 = .ok (.iload_n 0, 1) := by decide +kernel
theorem dX8_second_44 : decode cX8_second 44 = .ok (.iconst 4, 1) := by decide +kernel
theorem dX8_second_45 : decode cX8_second 45 = .ok (.if_icmp .ne 9, 3) := by decide +kernel
theorem dX8_second_48 : decode cX8_second 48 = .ok (.ldc2_w 71, 3) := by decide +kernel
theorem dX8_second_51 : decode cX8_second 51 = .ok (.goto 6, 3) := by decide +kernel
theorem dX8_second_54 : decode cX8_second 54 = .ok (.ldc2_w 73, 3) := by decide +kernel
theorem dX8_second_57 : decode cX8_second 57 = .ok (.lreturn, 1) := by decide +kernel
theorem dX8_third_0 : decode cX8_third 0 = .ok (.iload_n 0, 1) := by decide +kernel
theorem dX8_third_1 : decode cX8_third 1 = .ok (.ifCond .ne 9, 3) := by decide +kernel
theorem dX8_third_4 : decode cX8_third 4 = .ok (.ldc2_w 75, 3) := by decide +kernel
theorem dX8_third_7 : decode cX8_third 7 = .ok (.goto 50, 3) := by decide +kernel
theorem dX8_third_10 : decode cX8_third 10 = .ok (.iload_n 0, 1) := by decide +kernel
theorem dX8_third_11 : decode cX8_third 11 = .ok (.iconst 1, 1) := by decide +kernel
theorem dX8_third_12 : decode cX8_third 12 = .ok (.if_icmp .ne 9, 3) := by decide +kernel
theorem dX8_third_15 : decode cX8_third 15 = .ok (.ldc2_w 77, 3) := by decide +kernel
theorem dX8_third_18 : decode cX8_third 18 = .ok (.goto 39, 3) := by decide +kernel
theorem dX8_third_21 : decode cX8_third 21 = .ok (.iload_n 0, 1) := by decide +kernel
theorem dX8_third_22 : decode cX8_third 22 = .ok (.iconst 2, 1) := by decide +kernel
theorem dX8_third_23 : decode cX8_third 23 = .ok (.if_icmp .ne 9, 3) := by decide +kernel
theorem dX8_third_26 : decode cX8_third 26 = .ok (.ldc2_w 79, 3) := by decide +kernel
theorem dX8_third_29 : decode cX8_third 29 = .ok (.goto 28, 3) := by decide +kernel
theorem dX8_third_32 : decode cX8_third 32 = .ok (.iload_n 0, 1) := by decide +kernel
theorem dX8_third_33 : decode cX8_third 33 = .ok (.iconst 3, 1) := by decide +kernel
theorem dX8_third_34 : decode cX8_third 34 = .ok (.if_icmp .ne 9, 3) := by decide +kernel
theorem dX8_third_37 : decode cX8_third 37 = .ok (.ldc2_w 81, 3) := by decide +kernel
theorem dX8_third_40 : decode cX8_third 40 = .ok (.goto 17, 3) := by decide +kernel
theorem dX8_third_43 : decode cX8_third 43 = .ok (.iload_n 0, 1) := by decide +kernel
theorem dX8_third_44 : decode cX8_third 44 = .ok (.iconst 4, 1) := by decide +kernel
theorem dX8_third_45 : decode cX8_third 45 = .ok (.if_icmp .ne 9, 3) := by decide +kernel
theorem dX8_third_48 : decode cX8_third 48 = .ok (.ldc2_w 83, 3) := by decide +kernel
theorem dX8_third_51 : decode cX8_third 51 = .ok (.goto 6, 3) := by decide +kernel
theorem dX8_third_54 : decode cX8_third 54 = .ok (.ldc2_w 85, 3) := by decide +kernel
theorem dX8_third_57 : decode cX8_third 57 = .ok (.lreturn, 1) := by decide +kernel
set_option maxRecDepth 20000 in
theorem ggX8_hash_X8_first : GoodIn wsX8_hash wsX8_first := goodIn_r _ [5, 6, 7, 8, 9, 10, 11] (by decide +kernel) (by decide +kernel)
set_option maxRecDepth 20000 in
theorem gX8_hash_X8_first : GoodIn wsX8_hash (va_wsS RX8 87 yX8_first wsX8_first) := goodIn_app (goodIn_of _ (by decide +kernel)) ggX8_hash_X8_first
set_option maxRecDepth 20000 in
theorem ggX8_hash_X8_second : GoodIn wsX8_hash wsX8_second := goodIn_r _ [14, 15, 16, 17, 18, 19, 20] (by decide +kernel) (by decide +kernel)
set_option maxRecDepth 20000 in
theorem gX8_hash_X8_second : GoodIn wsX8_hash (va_wsS RX8 91 yX8_second wsX8_second) := goodIn_app (goodIn_of _ (by decide +kernel)) ggX8_hash_X8_second
set_option maxRecDepth 20000 in
theorem ggX8_hash_X8_third : GoodIn wsX8_hash wsX8_third := goodIn_r _ [23, 24, 25, 26, 27, 28, 29] (by decide +kernel) (by decide +kernel)
set_option maxRecDepth 20000 in
theorem gX8_hash_X8_third : GoodIn wsX8_hash (va_wsS RX8 94 yX8_third wsX8_third) := goodIn_app (goodIn_of _ (by decide +kernel)) ggX8_hash_X8_third
theorem dX8_hash_0 : decode cX8_hash 0 = .ok (.iload_n 1, 1) := by decide +kernel
theorem dX8_hash_1 : decode cX8_hash 1 = .ok (.i2l, 1) := by decide +kernel
theorem dX8_hash_2 : decode cX8_hash 2 = .ok (.iload_n 0, 1) := by decide +kernel
theorem dX8_hash_3 : decode cX8_hash 3 = .ok (.invokestatic 87, 3) := by decide +kernel
theorem dX8_hash_6 : decode cX8_hash 6 = .ok (.lmul, 1) := by decide +kernel
theorem dX8_hash_7 : decode cX8_hash 7 = .ok (.iload_n 2, 1) := by decide +kernel
theorem dX8_hash_8 : decode cX8_hash 8 = .ok (.i2l, 1) := by decide +kernel
theorem dX8_hash_9 : decode cX8_hash 9 = .ok (.iload_n 0, 1) := by decide +kernel
theorem dX8_hash_10 : decode cX8_hash 10 = .ok (.invokestatic 91, 3) := by decide +kernel
theorem dX8_hash_13 : decode cX8_hash 13 = .ok (.lmul, 1) := by decide +kernel
theorem dX8_hash_14 : decode cX8_hash 14 = .ok (.ladd, 1) := by decide +kernel
theorem dX8_hash_15 : decode cX8_hash 15 = .ok (.iload_n 0, 1) := by decide +kernel
theorem dX8_hash_16 : decode cX8_hash 16 = .ok (.invokestatic 94, 3) := by decide +kernel
theorem dX8_hash_19 : decode cX8_hash 19 = .ok (.ladd, 1) := by decide +kernel
theorem dX8_hash_20 : decode cX8_hash 20 = .ok (.ldc2_w 97, 3) := by decide +kernel
theorem dX8_hash_23 : decode cX8_hash 23 = .ok (.lrem, 1) := by decide +kernel
theorem dX8_hash_24 : decode cX8_hash 24 = .ok (.l2i, 1) := by decide +kernel
theorem dX8_hash_25 : decode cX8_hash 25 = .ok (.ireturn, 1) := by decide +kernel
theorem dX8_below_0 : decode cX8_below 0 = .ok (.iconst 0, 1) := by decide +kernel
theorem dX8_below_1 : decode cX8_below 1 = .ok (.istore_n 2, 1) := by decide +kernel
theorem dX8_below_2 : decode cX8_below 2 = .ok (.iload_n 2, 1) := by decide +kernel
theorem dX8_below_3 : decode cX8_below 3 = .ok (.aload_n 0, 1) := by decide +kernel
theorem dX8_below_4 : decode cX8_below 4 = .ok (.getfield 99, 3) := by decide +kernel
theorem dX8_below_7 : decode cX8_below 7 = .ok (.if_icmp .ge 19, 3) := by decide +kernel
theorem dX8_below_10 : decode cX8_below 10 = .ok (.aload_n 0, 1) := by decide +kernel
theorem dX8_below_11 : decode cX8_below 11 = .ok (.getfield 7, 3) := by decide +kernel
theorem dX8_below_14 : decode cX8_below 14 = .ok (.iload_n 2, 1) := by decide +kernel
theorem dX8_below_15 : decode cX8_below 15 = .ok (.iaload, 1) := by decide +kernel
theorem dX8_below_16 : decode cX8_below 16 = .ok (.iload_n 1, 1) := by decide +kernel
theorem dX8_below_17 : decode cX8_below 17 = .ok (.if_icmp .ge 9, 3) := by decide +kernel
theorem dX8_below_20 : decode cX8_below 20 = .ok (.iinc 2 1, 3) := by decide +kernel
theorem dX8_below_23 : decode cX8_below 23 = .ok (.goto (-21), 3) := by decide +kernel
theorem dX8_below_26 : decode cX8_below 26 = .ok (.iload_n 2, 1) := by decide +kernel
theorem dX8_below_27 : decode cX8_below 27 = .ok (.ireturn, 1) := by decide +kernel
set_option maxRecDepth 20000 in
theorem ggX8_is_X8_below : GoodIn wsX8_is wsX8_below := goodIn_r _ [7, 1, 2, 8, 9, 10, 11, 12, 13, 14, 15, 16, 17, 18, 19, 20, 21, 22, 23, 24, 25, 26, 27] (by decide +kernel) (by decide +kernel)
set_option maxRecDepth 20000 in
theorem gX8_is_X8_below : GoodIn wsX8_is (wsV RX8 102 RX8 yX8_below wsX8_below) := goodIn_app (goodIn_of _ (by decide +kernel)) ggX8_is_X8_below
theorem dX8_is_0 : decode cX8_is 0 = .ok (.aload_n 0, 1) := by decide +kernel
theorem dX8_is_1 : decode cX8_is 1 = .ok (.iload_n 1, 1) := by decide +kernel
theorem dX8_is_2 : decode cX8_is 2 = .ok (.invokevirtual 102, 3) := by decide +kernel
theorem dX8_is_5 : decode cX8_is 5 = .ok (.istore_n 2, 1) := by decide +kernel
theorem dX8_is_6 : decode cX8_is 6 = .ok (.iload_n 2, 1) := by decide +kernel
theorem dX8_is_7 : decode cX8_is 7 = .ok (.aload_n 0, 1) := by decide +kernel
theorem dX8_is_8 : decode cX8_is 8 = .ok (.getfield 99, 3) := by decide +kernel
theorem dX8_is_11 : decode cX8_is 11 = .ok (.if_icmp .ge 17, 3) := by decide +kernel
theorem dX8_is_14 : decode cX8_is 14 = .ok (.aload_n 0, 1) := by decide +kernel
theorem dX8_is_15 : decode cX8_is 15 = .ok (.getfield 7, 3) := by decide +kernel
theorem dX8_is_18 : decode cX8_is 18 = .ok (.iload_n 2, 1) := by decide +kernel
theorem dX8_is_19 : decode cX8_is 19 = .ok (.iaload, 1) := by decide +kernel
theorem dX8_is_20 : decode cX8_is 20 = .ok (.iload_n 1, 1) := by decide +kernel
theorem dX8_is_21 : decode cX8_is 21 = .ok (.if_icmp .ne 7, 3) := by decide +kernel
theorem dX8_is_24 : decode cX8_is 24 = .ok (.iconst 1, 1) := by decide +kernel
theorem dX8_is_25 : decode cX8_is 25 = .ok (.goto 4, 3) := by decide +kernel
theorem dX8_is_28 : decode cX8_is 28 = .ok (.iconst 0, 1) := by decide +kernel
theorem dX8_is_29 : decode cX8_is 29 = .ok (.ireturn, 1) := by decide +kernel
set_option maxRecDepth 20000 in
theorem ggX8_put_X8_below : GoodIn wsX8_put wsX8_below := goodIn_r _ [7, 1, 2, 8, 9, 10, 11, 12, 13, 14, 15, 16, 17, 18, 19, 20, 21, 22, 23, 24, 25, 26, 27] (by decide +kernel) (by decide +kernel)
set_option maxRecDepth 20000 in
theorem gX8_put_X8_below : GoodIn wsX8_put (wsV RX8 102 RX8 yX8_below wsX8_below) := goodIn_app (goodIn_of _ (by decide +kernel)) ggX8_put_X8_below
theorem dX8_put_0 : decode cX8_put 0 = .ok (.aload_n 0, 1) := by decide +kernel
theorem dX8_put_1 : decode cX8_put 1 = .ok (.iload_n 1, 1) := by decide +kernel
theorem dX8_put_2 : decode cX8_put 2 = .ok (.invokevirtual 102, 3) := by decide +kernel
theorem dX8_put_5 : decode cX8_put 5 = .ok (.istore_n 2, 1) := by decide +kernel
theorem dX8_put_6 : decode cX8_put 6 = .ok (.aload_n 0, 1) := by decide +kernel
theorem dX8_put_7 : decode cX8_put 7 = .ok (.getfield 99, 3) := by decide +kernel
theorem dX8_put_10 : decode cX8_put 10 = .ok (.istore_n 3, 1) := by decide +kernel
theorem dX8_put_11 : decode cX8_put 11 = .ok (.iload_n 3, 1) := by decide +kernel
theorem dX8_put_12 : decode cX8_put 12 = .ok (.iload_n 2, 1) := by decide +kernel
theorem dX8_put_13 : decode cX8_put 13 = .ok (.if_icmp .le 23, 3) := by decide +kernel
theorem dX8_put_16 : decode cX8_put 16 = .ok (.aload_n 0, 1) := by decide +kernel
theorem dX8_put_17 : decode cX8_put 17 = .ok (.getfield 7, 3) := by decide +kernel
theorem dX8_put_20 : decode cX8_put 20 = .ok (.iload_n 3, 1) := by decide +kernel
theorem dX8_put_21 : decode cX8_put 21 = .ok (.aload_n 0, 1) := by decide +kernel
theorem dX8_put_22 : decode cX8_put 22 = .ok (.getfield 7, 3) := by decide +kernel
theorem dX8_put_25 : decode cX8_put 25 = .ok (.iload_n 3, 1) := by decide +kernel
theorem dX8_put_26 : decode cX8_put 26 = .ok (.iconst 1, 1) := by decide +kernel
theorem dX8_put_27 : decode cX8_put 27 = .ok (.isub, 1) := by decide +kernel
theorem dX8_put_28 : decode cX8_put 28 = .ok (.iaload, 1) := by decide +kernel
theorem dX8_put_29 : decode cX8_put 29 = .ok (.iastore, 1) := by decide +kernel
theorem dX8_put_30 : decode cX8_put 30 = .ok (.iinc 3 (-1), 3) := by decide +kernel
theorem dX8_put_33 : decode cX8_put 33 = .ok (.goto (-22), 3) := by decide +kernel
theorem dX8_put_36 : decode cX8_put 36 = .ok (.aload_n 0, 1) := by decide +kernel
theorem dX8_put_37 : decode cX8_put 37 = .ok (.getfield 7, 3) := by decide +kernel
theorem dX8_put_40 : decode cX8_put 40 = .ok (.iload_n 2, 1) := by decide +kernel
theorem dX8_put_41 : decode cX8_put 41 = .ok (.iload_n 1, 1) := by decide +kernel
theorem dX8_put_42 : decode cX8_put 42 = .ok (.iastore, 1) := by decide +kernel
theorem dX8_put_43 : decode cX8_put 43 = .ok (.aload_n 0, 1) := by decide +kernel
theorem dX8_put_44 : decode cX8_put 44 = .ok (.dup, 1) := by decide +kernel
theorem dX8_put_45 : decode cX8_put 45 = .ok (.getfield 99, 3) := by decide +kernel
theorem dX8_put_48 : decode cX8_put 48 = .ok (.iconst 1, 1) := by decide +kernel
theorem dX8_put_49 : decode cX8_put 49 = .ok (.iadd, 1) := by decide +kernel
theorem dX8_put_50 : decode cX8_put 50 = .ok (.putfield 99, 3) := by decide +kernel
theorem dX8_put_53 : decode cX8_put 53 = .ok (.return_, 1) := by decide +kernel
set_option maxRecDepth 20000 in
theorem ggX8_add_X8_in : GoodIn wsX8_add wsX8_in := goodIn_r _ [8] (by decide +kernel) (by decide +kernel)
set_option maxRecDepth 20000 in
theorem gX8_add_X8_in : GoodIn wsX8_add (va_wsS RX8 107 yX8_in wsX8_in) := goodIn_app (goodIn_of _ (by decide +kernel)) ggX8_add_X8_in
set_option maxRecDepth 20000 in
theorem ggX8_add_X8_fails : GoodIn wsX8_add wsX8_fails := goodIn_r _ [12, 1, 26, 27, 28, 29, 30, 31, 32, 33, 34, 35, 36, 37, 38, 39, 40, 41, 42, 43, 44, 45] (by decide +kernel) (by decide +kernel)
set_option maxRecDepth 20000 in
theorem gX8_add_X8_fails : GoodIn wsX8_add (wsV RX8 111 RX8 yX8_fails wsX8_fails) := goodIn_app (goodIn_of _ (by decide +kernel)) ggX8_add_X8_fails
set_option maxRecDepth 20000 in
theorem ggX8_add_X8_is : GoodIn wsX8_add wsX8_is := goodIn_r _ [16, 4, 17, 18, 19, 20, 7, 21, 26, 27, 28, 29, 30, 31, 32, 33, 34, 35, 36, 37, 38, 39, 40, 41, 42, 43, 44, 45] (by decide +kernel) (by decide +kernel)
set_option maxRecDepth 20000 in
theorem gX8_add_X8_is : GoodIn wsX8_add (wsV RX8 118 RX8 yX8_is wsX8_is) := goodIn_app (goodIn_of _ (by decide +kernel)) ggX8_add_X8_is
set_option maxRecDepth 20000 in
theorem ggX8_add_X8_put : GoodIn wsX8_add wsX8_put := goodIn_r _ [25, 4, 17, 18, 19, 20, 7, 21, 26, 27, 28, 29, 30, 31, 32, 33, 34, 35, 36, 37, 38, 39, 40, 41, 42, 43, 44, 45] (by decide +kernel) (by decide +kernel)
set_option maxRecDepth 20000 in
theorem gX8_add_X8_put : GoodIn wsX8_add (wsV RX8 122 RX8 yX8_put wsX8_put) := goodIn_app (goodIn_of _ (by decide +kernel)) ggX8_add_X8_put
theorem dX8_add_0 : decode cX8_add 0 = .ok (.aload_n 0, 1) := by decide +kernel
theorem dX8_add_1 : decode cX8_add 1 = .ok (.iconst 0, 1) := by decide +kernel
theorem dX8_add_2 : decode cX8_add 2 = .ok (.putfield 47, 3) := by decide +kernel
theorem dX8_add_5 : decode cX8_add 5 = .ok (.iload_n 1, 1) := by decide +kernel
theorem dX8_add_6 : decode cX8_add 6 = .ok (.iconst 0, 1) := by decide +kernel
theorem dX8_add_7 : decode cX8_add 7 = .ok (.ldc 106, 2) := by decide +kernel
theorem dX8_add_9 : decode cX8_add 9 = .ok (.invokestatic 107, 3) := by decide +kernel
theorem dX8_add_12 : decode cX8_add 12 = .ok (.ifCond .ne 9, 3) := by decide +kernel
theorem dX8_add_15 : decode cX8_add 15 = .ok (.aload_n 0, 1) := by decide +kernel
theorem dX8_add_16 : decode cX8_add 16 = .ok (.iconst 1, 1) := by decide +kernel
theorem dX8_add_17 : decode cX8_add 17 = .ok (.invokevirtual 111, 3) := by decide +kernel
theorem dX8_add_20 : decode cX8_add 20 = .ok (.ireturn, 1) := by decide +kernel
theorem dX8_add_21 : decode cX8_add 21 = .ok (.aload_n 0, 1) := by decide +kernel
theorem dX8_add_22 : decode cX8_add 22 = .ok (.getfield 114, 3) := by decide +kernel
theorem dX8_add_25 : decode cX8_add 25 = .ok (.ifCond .ne 20, 3) := by decide +kernel
theorem dX8_add_28 : decode cX8_add 28 = .ok (.aload_n 0, 1) := by decide +kernel
theorem dX8_add_29 : decode cX8_add 29 = .ok (.getfield 99, 3) := by decide +kernel
theorem dX8_add_32 : decode cX8_add 32 = .ok (.bipush 120, 2) := by decide +kernel
theorem dX8_add_34 : decode cX8_add 34 = .ok (.if_icmp .eq 11, 3) := by decide +kernel
theorem dX8_add_37 : decode cX8_add 37 = .ok (.aload_n 0, 1) := by decide +kernel
theorem dX8_add_38 : decode cX8_add 38 = .ok (.iload_n 1, 1) := by decide +kernel
theorem dX8_add_39 : decode cX8_add 39 = .ok (.invokevirtual 118, 3) := by decide +kernel
theorem dX8_add_42 : decode cX8_add 42 = .ok (.ifCond .eq 9, 3) := by decide +kernel
theorem dX8_add_45 : decode cX8_add 45 = .ok (.aload_n 0, 1) := by decide +kernel
theorem dX8_add_46 : decode cX8_add 46 = .ok (.iconst 2, 1) := by decide +kernel
theorem dX8_add_47 : decode cX8_add 47 = .ok (.invokevirtual 111, 3) := by decide +kernel
theorem dX8_add_50 : decode cX8_add 50 = .ok (.ireturn, 1) := by decide +kernel
theorem dX8_add_51 : decode cX8_add 51 = .ok (.aload_n 0, 1) := by decide +kernel
theorem dX8_add_52 : decode cX8_add 52 = .ok (.iload_n 1, 1) := by decide +kernel
theorem dX8_add_53 : decode cX8_add 53 = .ok (.invokevirtual 122, 3) := by decide +kernel
theorem dX8_add_56 : decode cX8_add 56 = .ok (.aload_n 0, 1) := by decide +kernel
theorem dX8_add_57 : decode cX8_add 57 = .ok (.getfield 99, 3) := by decide +kernel
theorem dX8_add_60 : decode cX8_add 60 = .ok (.ireturn, 1) := by decide +kernel
set_option maxRecDepth 20000 in
theorem ggX8_addLine_X8_in : GoodIn wsX8_addLine wsX8_in := goodIn_r _ [8] (by decide +kernel) (by decide +kernel)
set_option maxRecDepth 20000 in
theorem gX8_addLine_X8_in : GoodIn wsX8_addLine (va_wsS RX8 107 yX8_in wsX8_in) := goodIn_app (goodIn_of _ (by decide +kernel)) ggX8_addLine_X8_in
set_option maxRecDepth 20000 in
theorem ggX8_addLine_X8_fails : GoodIn wsX8_addLine wsX8_fails := goodIn_r _ [12, 1, 26, 27, 28, 29, 30, 31, 32, 33, 34, 35, 36, 37, 38, 39, 40, 41, 42, 43, 44, 45] (by decide +kernel) (by decide +kernel)
set_option maxRecDepth 20000 in
theorem gX8_addLine_X8_fails : GoodIn wsX8_addLine (wsV RX8 111 RX8 yX8_fails wsX8_fails) := goodIn_app (goodIn_of _ (by decide +kernel)) ggX8_addLine_X8_fails
set_option maxRecDepth 20000 in
theorem ggX8_addLine_X8_is : GoodIn wsX8_addLine wsX8_is := goodIn_r _ [16, 4, 17, 18, 19, 20, 7, 21, 26, 27, 28, 29, 30, 31, 32, 33, 34, 35, 36, 37, 38, 39, 40, 41, 42, 43, 44, 45] (by decide +kernel) (by decide +kernel)
set_option maxRecDepth 20000 in
theorem gX8_addLine_X8_is : GoodIn wsX8_addLine (wsV RX8 118 RX8 yX8_is wsX8_is) := goodIn_app (goodIn_of _ (by decide +kernel)) ggX8_addLine_X8_is
set_option maxRecDepth 20000 in
theorem ggX8_addLine_X8_put : GoodIn wsX8_addLine wsX8_put := goodIn_r _ [25, 4, 17, 18, 19, 20, 7, 21, 26, 27, 28, 29, 30, 31, 32, 33, 34, 35, 36, 37, 38, 39, 40, 41, 42, 43, 44, 45] (by decide +kernel) (by decide +kernel)
set_option maxRecDepth 20000 in
theorem gX8_addLine_X8_put : GoodIn wsX8_addLine (wsV RX8 122 RX8 yX8_put wsX8_put) := goodIn_app (goodIn_of _ (by decide +kernel)) ggX8_addLine_X8_put
theorem dX8_addLine_0 : decode cX8_addLine 0 = .ok (.aload_n 0, 1) := by decide +kernel
theorem dX8_addLine_1 : decode cX8_addLine 1 = .ok (.iconst 0, 1) := by decide +kernel
theorem dX8_addLine_2 : decode cX8_addLine 2 = .ok (.putfield 47, 3) := by decide +kernel
theorem dX8_addLine_5 : decode cX8_addLine 5 = .ok (.iload_n 1, 1) := by decide +kernel
theorem dX8_addLine_6 : decode cX8_addLine 6 = .ok (.iconst 0, 1) := by decide +kernel
theorem dX8_addLine_7 : decode cX8_addLine 7 = .ok (.ldc 106, 2) := by decide +kernel
theorem dX8_addLine_9 : decode cX8_addLine 9 = .ok (.invokestatic 107, 3) := by decide +kernel
theorem dX8_addLine_12 : decode cX8_addLine 12 = .ok (.ifCond .eq 36, 3) := by decide +kernel
theorem dX8_addLine_15 : decode cX8_addLine 15 = .ok (.iload_n 2, 1) := by decide +kernel
theorem dX8_addLine_16 : decode cX8_addLine 16 = .ok (.iconst 1, 1) := by decide +kernel
theorem dX8_addLine_17 : decode cX8_addLine 17 = .ok (.sipush 9999, 3) := by decide +kernel
theorem dX8_addLine_20 : decode cX8_addLine 20 = .ok (.invokestatic 107, 3) := by decide +kernel
theorem dX8_addLine_23 : decode cX8_addLine 23 = .ok (.ifCond .eq 25, 3) := by decide +kernel
theorem dX8_addLine_26 : decode cX8_addLine 26 = .ok (.iload_n 3, 1) := by decide +kernel
theorem dX8_addLine_27 : decode cX8_addLine 27 = .ok (.iconst 1, 1) := by decide +kernel
theorem dX8_addLine_28 : decode cX8_addLine 28 = .ok (.bipush 40, 2) := by decide +kernel
theorem dX8_addLine_30 : decode cX8_addLine 30 = .ok (.invokestatic 107, 3) := by decide +kernel
theorem dX8_addLine_33 : decode cX8_addLine 33 = .ok (.ifCond .eq 15, 3) := by decide +kernel
theorem dX8_addLine_36 : decode cX8_addLine 36 = .ok (.iload_n 1, 1) := by decide +kernel
theorem dX8_addLine_37 : decode cX8_addLine 37 = .ok (.iload_n 2, 1) := by decide +kernel
theorem dX8_addLine_38 : decode cX8_addLine 38 = .ok (.iload_n 3, 1) := by decide +kernel
theorem dX8_addLine_39 : decode cX8_addLine 39 = .ok (.iconst 1, 1) := by decide +kernel
theorem dX8_addLine_40 : decode cX8_addLine 40 = .ok (.isub, 1) := by decide +kernel
theorem dX8_addLine_41 : decode cX8_addLine 41 = .ok (.imul, 1) := by decide +kernel
theorem dX8_addLine_42 : decode cX8_addLine 42 = .ok (.iadd, 1) := by decide +kernel
theorem dX8_addLine_43 : decode cX8_addLine 43 = .ok (.ldc 106, 2) := by decide +kernel
theorem dX8_addLine_45 : decode cX8_addLine 45 = .ok (.if_icmp .le 9, 3) := by decide +kernel
theorem dX8_addLine_48 : decode cX8_addLine 48 = .ok (.aload_n 0, 1) := by decide +kernel
theorem dX8_addLine_49 : decode cX8_addLine 49 = .ok (.iconst 1, 1) := by decide +kernel
theorem dX8_addLine_50 : decode cX8_addLine 50 = .ok (.invokevirtual 111, 3) := by decide +kernel
theorem dX8_addLine_53 : decode cX8_addLine 53 = .ok (.ireturn, 1) := by decide +kernel
theorem dX8_addLine_54 : decode cX8_addLine 54 = .ok (.iconst 0, 1) := by decide +kernel
theorem dX8_addLine_55 : decode cX8_addLine 55 = .ok (.istore 4, 2) := by decide +kernel
theorem dX8_addLine_57 : decode cX8_addLine 57 = .ok (.iconst 0, 1) := by decide +kernel
theorem dX8_addLine_58 : decode cX8_addLine 58 = .ok (.istore 5, 2) := by decide +kernel
theorem dX8_addLine_60 : decode cX8_addLine 60 = .ok (.iload 5, 2) := by decide +kernel
theorem dX8_addLine_62 : decode cX8_addLine 62 = .ok (.iload_n 3, 1) := by decide +kernel
theorem dX8_addLine_63 : decode cX8_addLine 63 = .ok (.if_icmp .ge 32, 3) := by decide +kernel
theorem dX8_addLine_66 : decode cX8_addLine 66 = .ok (.iload 4, 2) := by decide +kernel
theorem dX8_addLine_68 : decode cX8_addLine 68 = .ok (.aload_n 0, 1) := by decide +kernel
theorem dX8_addLine_69 : decode cX8_addLine 69 = .ok (.iload_n 1, 1) := by decide +kernel
theorem dX8_addLine_70 : decode cX8_addLine 70 = .ok (.iload_n 2, 1) := by decide +kernel
theorem dX8_addLine_71 : decode cX8_addLine 71 = .ok (.iload 5, 2) := by decide +kernel
theorem dX8_addLine_73 : decode cX8_addLine 73 = .ok (.imul, 1) := by decide +kernel
theorem dX8_addLine_74 : decode cX8_addLine 74 = .ok (.iadd, 1) := by decide +kernel
theorem dX8_addLine_75 : decode cX8_addLine 75 = .ok (.invokevirtual 118, 3) := by decide +kernel
theorem dX8_addLine_78 : decode cX8_addLine 78 = .ok (.ifCond .eq 7, 3) := by decide +kernel
theorem dX8_addLine_81 : decode cX8_addLine 81 = .ok (.iconst 0, 1) := by decide +kernel
theorem dX8_addLine_82 : decode cX8_addLine 82 = .ok (.goto 4, 3) := by decide +kernel
theorem dX8_addLine_85 : decode cX8_addLine 85 = .ok (.iconst 1, 1) := by decide +kernel
theorem dX8_addLine_86 : decode cX8_addLine 86 = .ok (.iadd, 1) := by decide +kernel
theorem dX8_addLine_87 : decode cX8_addLine 87 = .ok (.istore 4, 2) := by decide +kernel
theorem dX8_addLine_89 : decode cX8_addLine 89 = .ok (.iinc 5 1, 3) := by decide +kernel
theorem dX8_addLine_92 : decode cX8_addLine 92 = .ok (.goto (-32), 3) := by decide +kernel
theorem dX8_addLine_95 : decode cX8_addLine 95 = .ok (.aload_n 0, 1) := by decide +kernel
theorem dX8_addLine_96 : decode cX8_addLine 96 = .ok (.getfield 114, 3) := by decide +kernel
theorem dX8_addLine_99 : decode cX8_addLine 99 = .ok (.ifCond .ne 15, 3) := by decide +kernel
theorem dX8_addLine_102 : decode cX8_addLine 102 = .ok (.aload_n 0, 1) := by decide +kernel
theorem dX8_addLine_103 : decode cX8_addLine 103 = .ok (.getfield 99, 3) := by decide +kernel
theorem dX8_addLine_106 : decode cX8_addLine 106 = .ok (.iload 4, 2) := by decide +kernel
theorem dX8_addLine_108 : decode cX8_addLine 108 = .ok (.iadd, 1) := by decide +kernel
theorem dX8_addLine_109 : decode cX8_addLine 109 = .ok (.bipush 120, 2) := by decide +kernel
theorem dX8_addLine_111 : decode cX8_addLine 111 = .ok (.if_icmp .le 9, 3) := by decide +kernel
theorem dX8_addLine_114 : decode cX8_addLine 114 = .ok (.aload_n 0, 1) := by decide +kernel
theorem dX8_addLine_115 : decode cX8_addLine 115 = .ok (.iconst 2, 1) := by decide +kernel
theorem dX8_addLine_116 : decode cX8_addLine 116 = .ok (.invokevirtual 111, 3) := by decide +kernel
theorem dX8_addLine_119 : decode cX8_addLine 119 = .ok (.ireturn, 1) := by decide +kernel
theorem dX8_addLine_120 : decode cX8_addLine 120 = .ok (.iconst 0, 1) := by decide +kernel
theorem dX8_addLine_121 : decode cX8_addLine 121 = .ok (.istore 5, 2) := by decide +kernel
theorem dX8_addLine_123 : decode cX8_addLine 123 = .ok (.iload 5, 2) := by decide +kernel
theorem dX8_addLine_125 : decode cX8_addLine 125 = .ok (.iload_n 3, 1) := by decide +kernel
theorem dX8_addLine_126 : decode cX8_addLine 126 = .ok (.if_icmp .ge 32, 3) := by decide +kernel
theorem dX8_addLine_129 : decode cX8_addLine 129 = .ok (.aload_n 0, 1) := by decide +kernel
theorem dX8_addLine_130 : decode cX8_addLine 130 = .ok (.iload_n 1, 1) := by decide +kernel
theorem dX8_addLine_131 : decode cX8_addLine 131 = .ok (.iload_n 2, 1) := by decide +kernel
theorem dX8_addLine_132 : decode cX8_addLine 132 = .ok (.iload 5, 2) := by decide +kernel
theorem dX8_addLine_134 : decode cX8_addLine 134 = .ok (.imul, 1) := by decide +kernel
theorem dX8_addLine_135 : decode cX8_addLine 135 = .ok (.iadd, 1) := by decide +kernel
theorem dX8_addLine_136 : decode cX8_addLine 136 = .ok (.invokevirtual 118, 3) := by decide +kernel
theorem dX8_addLine_139 : decode cX8_addLine 139 = .ok (.ifCond .ne 13, 3) := by decide +kernel
theorem dX8_addLine_142 : decode cX8_addLine 142 = .ok (.aload_n 0, 1) := by decide +kernel
theorem dX8_addLine_143 : decode cX8_addLine 143 = .ok (.iload_n 1, 1) := by decide +kernel
theorem dX8_addLine_144 : decode cX8_addLine 144 = .ok (.iload_n 2, 1) := by decide +kernel
theorem dX8_addLine_145 : decode cX8_addLine 145 = .ok (.iload 5, 2) := by decide +kernel
theorem dX8_addLine_147 : decode cX8_addLine 147 = .ok (.imul, 1) := by decide +kernel
theorem dX8_addLine_148 : decode cX8_addLine 148 = .ok (.iadd, 1) := by decide +kernel
theorem dX8_addLine_149 : decode cX8_addLine 149 = .ok (.invokevirtual 122, 3) := by decide +kernel
theorem dX8_addLine_152 : decode cX8_addLine 152 = .ok (.iinc 5 1, 3) := by decide +kernel
theorem dX8_addLine_155 : decode cX8_addLine 155 = .ok (.goto (-32), 3) := by decide +kernel
theorem dX8_addLine_158 : decode cX8_addLine 158 = .ok (.aload_n 0, 1) := by decide +kernel
theorem dX8_addLine_159 : decode cX8_addLine 159 = .ok (.getfield 99, 3) := by decide +kernel
theorem dX8_addLine_162 : decode cX8_addLine 162 = .ok (.ireturn, 1) := by decide +kernel
set_option maxRecDepth 20000 in
theorem ggX8_remove_X8_in : GoodIn wsX8_remove wsX8_in := goodIn_r _ [9] (by decide +kernel) (by decide +kernel)
set_option maxRecDepth 20000 in
theorem gX8_remove_X8_in : GoodIn wsX8_remove (va_wsS RX8 107 yX8_in wsX8_in) := goodIn_app (goodIn_of _ (by decide +kernel)) ggX8_remove_X8_in
set_option maxRecDepth 20000 in
theorem ggX8_remove_X8_fails : GoodIn wsX8_remove wsX8_fails := goodIn_r _ [13, 1, 22, 23, 24, 25, 26, 27, 28, 29, 30, 31, 32, 33, 34, 35, 36, 37, 38, 39, 40, 41] (by decide +kernel) (by decide +kernel)
set_option maxRecDepth 20000 in
theorem gX8_remove_X8_fails : GoodIn wsX8_remove (wsV RX8 111 RX8 yX8_fails wsX8_fails) := goodIn_app (goodIn_of _ (by decide +kernel)) ggX8_remove_X8_fails
set_option maxRecDepth 20000 in
theorem ggX8_remove_X8_is : GoodIn wsX8_remove wsX8_is := goodIn_r _ [17, 4, 5, 18, 19, 20, 8, 21, 22, 23, 24, 25, 26, 27, 28, 29, 30, 31, 32, 33, 34, 35, 36, 37, 38, 39, 40, 41] (by decide +kernel) (by decide +kernel)
set_option maxRecDepth 20000 in
theorem gX8_remove_X8_is : GoodIn wsX8_remove (wsV RX8 118 RX8 yX8_is wsX8_is) := goodIn_app (goodIn_of _ (by decide +kernel)) ggX8_remove_X8_is
set_option maxRecDepth 20000 in
theorem ggX8_remove_X8_below : GoodIn wsX8_remove wsX8_below := goodIn_r _ [21, 4, 5, 22, 23, 24, 25, 26, 27, 28, 29, 30, 31, 32, 33, 34, 35, 36, 37, 38, 39, 40, 41] (by decide +kernel) (by decide +kernel)
set_option maxRecDepth 20000 in
theorem gX8_remove_X8_below : GoodIn wsX8_remove (wsV RX8 102 RX8 yX8_below wsX8_below) := goodIn_app (goodIn_of _ (by decide +kernel)) ggX8_remove_X8_below
theorem dX8_remove_0 : decode cX8_remove 0 = .ok (.aload_n 0, 1) := by decide +kernel
theorem dX8_remove_1 : decode cX8_remove 1 = .ok (.iconst 0, 1) := by decide +kernel
theorem dX8_remove_2 : decode cX8_remove 2 = .ok (.putfield 47, 3) := by decide +kernel
theorem dX8_remove_5 : decode cX8_remove 5 = .ok (.iload_n 1, 1) := by decide +kernel
theorem dX8_remove_6 : decode cX8_remove 6 = .ok (.iconst 0, 1) := by decide +kernel
theorem dX8_remove_7 : decode cX8_remove 7 = .ok (.ldc 106, 2) := by decide +kernel
theorem dX8_remove_9 : decode cX8_remove 9 = .ok (.invokestatic 107, 3) := by decide +kernel
theorem dX8_remove_12 : decode cX8_remove 12 = .ok (.ifCond .ne 9, 3) := by decide +kernel
theorem dX8_remove_15 : decode cX8_remove 15 = .ok (.aload_n 0, 1) := by decide +kernel
theorem dX8_remove_16 : decode cX8_remove 16 = .ok (.iconst 1, 1) := by decide +kernel
theorem dX8_remove_17 : decode cX8_remove 17 = .ok (.invokevirtual 111, 3) := by decide +kernel
theorem dX8_remove_20 : decode cX8_remove 20 = .ok (.ireturn, 1) := by decide +kernel
theorem dX8_remove_21 : decode cX8_remove 21 = .ok (.aload_n 0, 1) := by decide +kernel
theorem dX8_remove_22 : decode cX8_remove 22 = .ok (.getfield 114, 3) := by decide +kernel
theorem dX8_remove_25 : decode cX8_remove 25 = .ok (.ifCond .ne 11, 3) := by decide +kernel
theorem dX8_remove_28 : decode cX8_remove 28 = .ok (.aload_n 0, 1) := by decide +kernel
theorem dX8_remove_29 : decode cX8_remove 29 = .ok (.iload_n 1, 1) := by decide +kernel
theorem dX8_remove_30 : decode cX8_remove 30 = .ok (.invokevirtual 118, 3) := by decide +kernel
theorem dX8_remove_33 : decode cX8_remove 33 = .ok (.ifCond .ne 9, 3) := by decide +kernel
theorem dX8_remove_36 : decode cX8_remove 36 = .ok (.aload_n 0, 1) := by decide +kernel
theorem dX8_remove_37 : decode cX8_remove 37 = .ok (.iconst 2, 1) := by decide +kernel
theorem dX8_remove_38 : decode cX8_remove 38 = .ok (.invokevirtual 111, 3) := by decide +kernel
theorem dX8_remove_41 : decode cX8_remove 41 = .ok (.ireturn, 1) := by decide +kernel
theorem dX8_remove_42 : decode cX8_remove 42 = .ok (.aload_n 0, 1) := by decide +kernel
theorem dX8_remove_43 : decode cX8_remove 43 = .ok (.dup, 1) := by decide +kernel
theorem dX8_remove_44 : decode cX8_remove 44 = .ok (.getfield 99, 3) := by decide +kernel
theorem dX8_remove_47 : decode cX8_remove 47 = .ok (.iconst 1, 1) := by decide +kernel
theorem dX8_remove_48 : decode cX8_remove 48 = .ok (.isub, 1) := by decide +kernel
theorem dX8_remove_49 : decode cX8_remove 49 = .ok (.putfield 99, 3) := by decide +kernel
theorem dX8_remove_52 : decode cX8_remove 52 = .ok (.aload_n 0, 1) := by decide +kernel
theorem dX8_remove_53 : decode cX8_remove 53 = .ok (.iload_n 1, 1) := by decide +kernel
theorem dX8_remove_54 : decode cX8_remove 54 = .ok (.invokevirtual 102, 3) := by decide +kernel
theorem dX8_remove_57 : decode cX8_remove 57 = .ok (.istore_n 2, 1) := by decide +kernel
theorem dX8_remove_58 : decode cX8_remove 58 = .ok (.iload_n 2, 1) := by decide +kernel
theorem dX8_remove_59 : decode cX8_remove 59 = .ok (.aload_n 0, 1) := by decide +kernel
theorem dX8_remove_60 : decode cX8_remove 60 = .ok (.getfield 99, 3) := by decide +kernel
theorem dX8_remove_63 : decode cX8_remove 63 = .ok (.if_icmp .ge 23, 3) := by decide +kernel
theorem dX8_remove_66 : decode cX8_remove 66 = .ok (.aload_n 0, 1) := by decide +kernel
theorem dX8_remove_67 : decode cX8_remove 67 = .ok (.getfield 7, 3) := by decide +kernel
theorem dX8_remove_70 : decode cX8_remove 70 = .ok (.iload_n 2, 1) := by decide +kernel
theorem dX8_remove_71 : decode cX8_remove 71 = .ok (.aload_n 0, 1) := by decide +kernel
theorem dX8_remove_72 : decode cX8_remove 72 = .ok (.getfield 7, 3) := by decide +kernel
theorem dX8_remove_75 : decode cX8_remove 75 = .ok (.iload_n 2, 1) := by decide +kernel
theorem dX8_remove_76 : decode cX8_remove 76 = .ok (.iconst 1, 1) := by decide +kernel
theorem dX8_remove_77 : decode cX8_remove 77 = .ok (.iadd, 1) := by decide +kernel
end
section
theorem dX8_remove_78 : decode cX8_remove 78 = .ok (.iaload, 1) := by decide +kernel
theorem dX8_remove_79 : decode cX8_remove 79 = .ok (.iastore, 1) := by decide +kernel
theorem dX8_remove_80 : decode cX8_remove 80 = .ok (.iinc 2 1, 3) := by decide +kernel
theorem dX8_remove_83 : decode cX8_remove 83 = .ok (.goto (-25), 3) := by decide +kernel
theorem dX8_remove_86 : decode cX8_remove 86 = .ok (.aload_n 0, 1) := by decide +kernel
theorem dX8_remove_87 : decode cX8_remove 87 = .ok (.getfield 99, 3) := by decide +kernel
theorem dX8_remove_90 : decode cX8_remove 90 = .ok (.ireturn, 1) := by decide +kernel
theorem dX8_keys_0 : decode cX8_keys 0 = .ok (.aload_n 0, 1) := by decide +kernel
theorem dX8_keys_1 : decode cX8_keys 1 = .ok (.iconst 0, 1) := by decide +kernel
theorem dX8_keys_2 : decode cX8_keys 2 = .ok (.putfield 47, 3) := by decide +kernel
theorem dX8_keys_5 : decode cX8_keys 5 = .ok (.aload_n 0, 1) := by decide +kernel
theorem dX8_keys_6 : decode cX8_keys 6 = .ok (.getfield 99, 3) := by decide +kernel
theorem dX8_keys_9 : decode cX8_keys 9 = .ok (.ireturn, 1) := by decide +kernel
set_option maxRecDepth 20000 in
theorem ggX8_has_X8_in : GoodIn wsX8_has wsX8_in := goodIn_r _ [6] (by decide +kernel) (by decide +kernel)
set_option maxRecDepth 20000 in
theorem gX8_has_X8_in : GoodIn wsX8_has (va_wsS RX8 107 yX8_in wsX8_in) := goodIn_app (goodIn_of _ (by decide +kernel)) ggX8_has_X8_in
set_option maxRecDepth 20000 in
theorem ggX8_has_X8_fails : GoodIn wsX8_has wsX8_fails := goodIn_r _ [10, 1, 21, 22, 23, 24, 25, 26, 27, 28, 29, 30, 31, 32, 33, 34, 35, 36, 37, 38, 39, 40] (by decide +kernel) (by decide +kernel)
set_option maxRecDepth 20000 in
theorem gX8_has_X8_fails : GoodIn wsX8_has (wsV RX8 111 RX8 yX8_fails wsX8_fails) := goodIn_app (goodIn_of _ (by decide +kernel)) ggX8_has_X8_fails
set_option maxRecDepth 20000 in
theorem ggX8_has_X8_is : GoodIn wsX8_has wsX8_is := goodIn_r _ [14, 15, 16, 17, 18, 19, 5, 20, 21, 22, 23, 24, 25, 26, 27, 28, 29, 30, 31, 32, 33, 34, 35, 36, 37, 38, 39, 40] (by decide +kernel) (by decide +kernel)
set_option maxRecDepth 20000 in
theorem gX8_has_X8_is : GoodIn wsX8_has (wsV RX8 118 RX8 yX8_is wsX8_is) := goodIn_app (goodIn_of _ (by decide +kernel)) ggX8_has_X8_is
theorem dX8_has_0 : decode cX8_has 0 = .ok (.aload_n 0, 1) := by decide +kernel
theorem dX8_has_1 : decode cX8_has 1 = .ok (.iconst 0, 1) := by decide +kernel
theorem dX8_has_2 : decode cX8_has 2 = .ok (.putfield 47, 3) := by decide +kernel
theorem dX8_has_5 : decode cX8_has 5 = .ok (.iload_n 1, 1) := by decide +kernel
theorem dX8_has_6 : decode cX8_has 6 = .ok (.iconst 0, 1) := by decide +kernel
theorem dX8_has_7 : decode cX8_has 7 = .ok (.ldc 106, 2) := by decide +kernel
theorem dX8_has_9 : decode cX8_has 9 = .ok (.invokestatic 107, 3) := by decide +kernel
theorem dX8_has_12 : decode cX8_has 12 = .ok (.ifCond .ne 11, 3) := by decide +kernel
theorem dX8_has_15 : decode cX8_has 15 = .ok (.aload_n 0, 1) := by decide +kernel
theorem dX8_has_16 : decode cX8_has 16 = .ok (.iconst 1, 1) := by decide +kernel
theorem dX8_has_17 : decode cX8_has 17 = .ok (.invokevirtual 111, 3) := by decide +kernel
theorem dX8_has_20 : decode cX8_has 20 = .ok (.pop, 1) := by decide +kernel
theorem dX8_has_21 : decode cX8_has 21 = .ok (.iconst 0, 1) := by decide +kernel
theorem dX8_has_22 : decode cX8_has 22 = .ok (.ireturn, 1) := by decide +kernel
theorem dX8_has_23 : decode cX8_has 23 = .ok (.aload_n 0, 1) := by decide +kernel
theorem dX8_has_24 : decode cX8_has 24 = .ok (.iload_n 1, 1) := by decide +kernel
theorem dX8_has_25 : decode cX8_has 25 = .ok (.invokevirtual 118, 3) := by decide +kernel
theorem dX8_has_28 : decode cX8_has 28 = .ok (.ireturn, 1) := by decide +kernel
set_option maxRecDepth 20000 in
theorem ggX8_keyAt_X8_in : GoodIn wsX8_keyAt wsX8_in := goodIn_r _ [7] (by decide +kernel) (by decide +kernel)
set_option maxRecDepth 20000 in
theorem gX8_keyAt_X8_in : GoodIn wsX8_keyAt (va_wsS RX8 107 yX8_in wsX8_in) := goodIn_app (goodIn_of _ (by decide +kernel)) ggX8_keyAt_X8_in
set_option maxRecDepth 20000 in
theorem ggX8_keyAt_X8_fails : GoodIn wsX8_keyAt wsX8_fails := goodIn_r _ [11, 1, 12, 13, 14, 15, 16, 17, 18, 19, 20, 21, 22, 23, 24, 25, 26, 27, 28, 29, 30, 31] (by decide +kernel) (by decide +kernel)
set_option maxRecDepth 20000 in
theorem gX8_keyAt_X8_fails : GoodIn wsX8_keyAt (wsV RX8 111 RX8 yX8_fails wsX8_fails) := goodIn_app (goodIn_of _ (by decide +kernel)) ggX8_keyAt_X8_fails
theorem dX8_keyAt_0 : decode cX8_keyAt 0 = .ok (.aload_n 0, 1) := by decide +kernel
theorem dX8_keyAt_1 : decode cX8_keyAt 1 = .ok (.iconst 0, 1) := by decide +kernel
theorem dX8_keyAt_2 : decode cX8_keyAt 2 = .ok (.putfield 47, 3) := by decide +kernel
theorem dX8_keyAt_5 : decode cX8_keyAt 5 = .ok (.iload_n 1, 1) := by decide +kernel
theorem dX8_keyAt_6 : decode cX8_keyAt 6 = .ok (.iconst 0, 1) := by decide +kernel
theorem dX8_keyAt_7 : decode cX8_keyAt 7 = .ok (.aload_n 0, 1) := by decide +kernel
theorem dX8_keyAt_8 : decode cX8_keyAt 8 = .ok (.getfield 99, 3) := by decide +kernel
theorem dX8_keyAt_11 : decode cX8_keyAt 11 = .ok (.iconst 1, 1) := by decide +kernel
theorem dX8_keyAt_12 : decode cX8_keyAt 12 = .ok (.isub, 1) := by decide +kernel
theorem dX8_keyAt_13 : decode cX8_keyAt 13 = .ok (.invokestatic 107, 3) := by decide +kernel
theorem dX8_keyAt_16 : decode cX8_keyAt 16 = .ok (.ifCond .eq 12, 3) := by decide +kernel
theorem dX8_keyAt_19 : decode cX8_keyAt 19 = .ok (.aload_n 0, 1) := by decide +kernel
theorem dX8_keyAt_20 : decode cX8_keyAt 20 = .ok (.getfield 7, 3) := by decide +kernel
theorem dX8_keyAt_23 : decode cX8_keyAt 23 = .ok (.iload_n 1, 1) := by decide +kernel
theorem dX8_keyAt_24 : decode cX8_keyAt 24 = .ok (.iaload, 1) := by decide +kernel
theorem dX8_keyAt_25 : decode cX8_keyAt 25 = .ok (.goto 8, 3) := by decide +kernel
theorem dX8_keyAt_28 : decode cX8_keyAt 28 = .ok (.aload_n 0, 1) := by decide +kernel
theorem dX8_keyAt_29 : decode cX8_keyAt 29 = .ok (.iconst 1, 1) := by decide +kernel
theorem dX8_keyAt_30 : decode cX8_keyAt 30 = .ok (.invokevirtual 111, 3) := by decide +kernel
theorem dX8_keyAt_33 : decode cX8_keyAt 33 = .ok (.ireturn, 1) := by decide +kernel
set_option maxRecDepth 20000 in
theorem ggX8_stepOf_X8_hash : GoodIn wsX8_stepOf wsX8_hash := goodIn_r _ [4, 5, 6, 7, 3, 8, 9, 10, 11, 12, 13, 14, 15, 16, 17, 18, 19, 20, 21, 22, 23, 24, 25, 26, 27, 28, 29, 30, 31, 32] (by decide +kernel) (by decide +kernel)
set_option maxRecDepth 20000 in
theorem gX8_stepOf_X8_hash : GoodIn wsX8_stepOf (va_wsS RX8 126 yX8_hash wsX8_hash) := goodIn_app (goodIn_of _ (by decide +kernel)) ggX8_stepOf_X8_hash
theorem dX8_stepOf_0 : decode cX8_stepOf 0 = .ok (.iload_n 2, 1) := by decide +kernel
theorem dX8_stepOf_1 : decode cX8_stepOf 1 = .ok (.iconst 1, 1) := by decide +kernel
theorem dX8_stepOf_2 : decode cX8_stepOf 2 = .ok (.if_icmp .ne 7, 3) := by decide +kernel
theorem dX8_stepOf_5 : decode cX8_stepOf 5 = .ok (.iconst 1, 1) := by decide +kernel
theorem dX8_stepOf_6 : decode cX8_stepOf 6 = .ok (.goto 15, 3) := by decide +kernel
theorem dX8_stepOf_9 : decode cX8_stepOf 9 = .ok (.iconst 1, 1) := by decide +kernel
theorem dX8_stepOf_10 : decode cX8_stepOf 10 = .ok (.iconst 2, 1) := by decide +kernel
theorem dX8_stepOf_11 : decode cX8_stepOf 11 = .ok (.iload_n 0, 1) := by decide +kernel
theorem dX8_stepOf_12 : decode cX8_stepOf 12 = .ok (.iload_n 1, 1) := by decide +kernel
theorem dX8_stepOf_13 : decode cX8_stepOf 13 = .ok (.invokestatic 126, 3) := by decide +kernel
theorem dX8_stepOf_16 : decode cX8_stepOf 16 = .ok (.iload_n 2, 1) := by decide +kernel
theorem dX8_stepOf_17 : decode cX8_stepOf 17 = .ok (.iconst 1, 1) := by decide +kernel
theorem dX8_stepOf_18 : decode cX8_stepOf 18 = .ok (.isub, 1) := by decide +kernel
theorem dX8_stepOf_19 : decode cX8_stepOf 19 = .ok (.irem, 1) := by decide +kernel
theorem dX8_stepOf_20 : decode cX8_stepOf 20 = .ok (.iadd, 1) := by decide +kernel
theorem dX8_stepOf_21 : decode cX8_stepOf 21 = .ok (.ireturn, 1) := by decide +kernel
set_option maxRecDepth 20000 in
theorem ggX8_place_X8_hash : GoodIn wsX8_place wsX8_hash := goodIn_r _ [4, 5, 6, 7, 3, 8, 9, 10, 11, 12, 13, 14, 15, 16, 17, 18, 19, 20, 21, 22, 23, 24, 25, 26, 27, 28, 29, 30, 31, 32] (by decide +kernel) (by decide +kernel)
set_option maxRecDepth 20000 in
theorem gX8_place_X8_hash : GoodIn wsX8_place (va_wsS RX8 126 yX8_hash wsX8_hash) := goodIn_app (goodIn_of _ (by decide +kernel)) ggX8_place_X8_hash
set_option maxRecDepth 20000 in
theorem ggX8_place_X8_stepOf : GoodIn wsX8_place wsX8_stepOf := goodIn_r _ [35, 1, 2, 3, 4, 5, 6, 7, 8, 9, 10, 11, 12, 13, 14, 15, 16, 17, 18, 19, 20, 21, 22, 23, 24, 25, 26, 27, 28, 29, 30, 31, 32] (by decide +kernel) (by decide +kernel)
set_option maxRecDepth 20000 in
theorem gX8_place_X8_stepOf : GoodIn wsX8_place (va_wsS RX8 130 yX8_stepOf wsX8_stepOf) := goodIn_app (goodIn_of _ (by decide +kernel)) ggX8_place_X8_stepOf
theorem dX8_place_0 : decode cX8_place 0 = .ok (.iconst 1, 1) := by decide +kernel
theorem dX8_place_1 : decode cX8_place 1 = .ok (.iload_n 0, 1) := by decide +kernel
theorem dX8_place_2 : decode cX8_place 2 = .ok (.iload_n 1, 1) := by decide +kernel
theorem dX8_place_3 : decode cX8_place 3 = .ok (.invokestatic 126, 3) := by decide +kernel
theorem dX8_place_6 : decode cX8_place 6 = .ok (.i2l, 1) := by decide +kernel
theorem dX8_place_7 : decode cX8_place 7 = .ok (.iload_n 2, 1) := by decide +kernel
theorem dX8_place_8 : decode cX8_place 8 = .ok (.i2l, 1) := by decide +kernel
theorem dX8_place_9 : decode cX8_place 9 = .ok (.iload_n 0, 1) := by decide +kernel
theorem dX8_place_10 : decode cX8_place 10 = .ok (.iload_n 1, 1) := by decide +kernel
theorem dX8_place_11 : decode cX8_place 11 = .ok (.iload_n 3, 1) := by decide +kernel
theorem dX8_place_12 : decode cX8_place 12 = .ok (.invokestatic 130, 3) := by decide +kernel
theorem dX8_place_15 : decode cX8_place 15 = .ok (.i2l, 1) := by decide +kernel
theorem dX8_place_16 : decode cX8_place 16 = .ok (.lmul, 1) := by decide +kernel
theorem dX8_place_17 : decode cX8_place 17 = .ok (.ladd, 1) := by decide +kernel
theorem dX8_place_18 : decode cX8_place 18 = .ok (.iload_n 3, 1) := by decide +kernel
theorem dX8_place_19 : decode cX8_place 19 = .ok (.i2l, 1) := by decide +kernel
theorem dX8_place_20 : decode cX8_place 20 = .ok (.lrem, 1) := by decide +kernel
theorem dX8_place_21 : decode cX8_place 21 = .ok (.l2i, 1) := by decide +kernel
theorem dX8_place_22 : decode cX8_place 22 = .ok (.ireturn, 1) := by decide +kernel
set_option maxRecDepth 20000 in
theorem ggX8_gather_X8_hash : GoodIn wsX8_gather wsX8_hash := goodIn_r _ [7, 8, 9, 10, 6, 11, 12, 13, 14, 15, 16, 17, 18, 19, 20, 21, 22, 23, 24, 25, 26, 27, 28, 29, 30, 31, 32, 33, 34, 35] (by decide +kernel) (by decide +kernel)
set_option maxRecDepth 20000 in
theorem gX8_gather_X8_hash : GoodIn wsX8_gather (va_wsS RX8 126 yX8_hash wsX8_hash) := goodIn_app (goodIn_of _ (by decide +kernel)) ggX8_gather_X8_hash
theorem dX8_gather_0 : decode cX8_gather 0 = .ok (.iconst 0, 1) := by decide +kernel
theorem dX8_gather_1 : decode cX8_gather 1 = .ok (.istore 4, 2) := by decide +kernel
theorem dX8_gather_3 : decode cX8_gather 3 = .ok (.iconst 0, 1) := by decide +kernel
theorem dX8_gather_4 : decode cX8_gather 4 = .ok (.istore 5, 2) := by decide +kernel
theorem dX8_gather_6 : decode cX8_gather 6 = .ok (.iload 5, 2) := by decide +kernel
theorem dX8_gather_8 : decode cX8_gather 8 = .ok (.aload_n 0, 1) := by decide +kernel
theorem dX8_gather_9 : decode cX8_gather 9 = .ok (.getfield 99, 3) := by decide +kernel
theorem dX8_gather_12 : decode cX8_gather 12 = .ok (.if_icmp .ge 44, 3) := by decide +kernel
theorem dX8_gather_15 : decode cX8_gather 15 = .ok (.iconst 0, 1) := by decide +kernel
theorem dX8_gather_16 : decode cX8_gather 16 = .ok (.aload_n 0, 1) := by decide +kernel
theorem dX8_gather_17 : decode cX8_gather 17 = .ok (.getfield 7, 3) := by decide +kernel
theorem dX8_gather_20 : decode cX8_gather 20 = .ok (.iload 5, 2) := by decide +kernel
theorem dX8_gather_22 : decode cX8_gather 22 = .ok (.iaload, 1) := by decide +kernel
theorem dX8_gather_23 : decode cX8_gather 23 = .ok (.iload_n 2, 1) := by decide +kernel
theorem dX8_gather_24 : decode cX8_gather 24 = .ok (.invokestatic 126, 3) := by decide +kernel
theorem dX8_gather_27 : decode cX8_gather 27 = .ok (.iload_n 3, 1) := by decide +kernel
theorem dX8_gather_28 : decode cX8_gather 28 = .ok (.irem, 1) := by decide +kernel
theorem dX8_gather_29 : decode cX8_gather 29 = .ok (.iload_n 1, 1) := by decide +kernel
theorem dX8_gather_30 : decode cX8_gather 30 = .ok (.if_icmp .ne 20, 3) := by decide +kernel
theorem dX8_gather_33 : decode cX8_gather 33 = .ok (.aload_n 0, 1) := by decide +kernel
theorem dX8_gather_34 : decode cX8_gather 34 = .ok (.getfield 25, 3) := by decide +kernel
theorem dX8_gather_37 : decode cX8_gather 37 = .ok (.iload 4, 2) := by decide +kernel
theorem dX8_gather_39 : decode cX8_gather 39 = .ok (.aload_n 0, 1) := by decide +kernel
theorem dX8_gather_40 : decode cX8_gather 40 = .ok (.getfield 7, 3) := by decide +kernel
theorem dX8_gather_43 : decode cX8_gather 43 = .ok (.iload 5, 2) := by decide +kernel
theorem dX8_gather_45 : decode cX8_gather 45 = .ok (.iaload, 1) := by decide +kernel
theorem dX8_gather_46 : decode cX8_gather 46 = .ok (.iastore, 1) := by decide +kernel
theorem dX8_gather_47 : decode cX8_gather 47 = .ok (.iinc 4 1, 3) := by decide +kernel
theorem dX8_gather_50 : decode cX8_gather 50 = .ok (.iinc 5 1, 3) := by decide +kernel
theorem dX8_gather_53 : decode cX8_gather 53 = .ok (.goto (-47), 3) := by decide +kernel
theorem dX8_gather_56 : decode cX8_gather 56 = .ok (.iload 4, 2) := by decide +kernel
theorem dX8_gather_58 : decode cX8_gather 58 = .ok (.ireturn, 1) := by decide +kernel
set_option maxRecDepth 20000 in
theorem ggX8_goes_X8_place : GoodIn wsX8_goes wsX8_place := goodIn_r _ [7, 8, 9, 6, 10, 11, 12, 13, 14, 15, 16, 17, 18, 19, 20, 21, 22, 23, 24, 25, 26, 27, 28, 29, 30, 31, 32, 33, 34, 35, 36, 37, 38, 39, 40, 41] (by decide +kernel) (by decide +kernel)
set_option maxRecDepth 20000 in
theorem gX8_goes_X8_place : GoodIn wsX8_goes (va_wsS RX8 133 yX8_place wsX8_place) := goodIn_app (goodIn_of _ (by decide +kernel)) ggX8_goes_X8_place
theorem dX8_goes_0 : decode cX8_goes 0 = .ok (.iconst 1, 1) := by decide +kernel
theorem dX8_goes_1 : decode cX8_goes 1 = .ok (.istore 4, 2) := by decide +kernel
theorem dX8_goes_3 : decode cX8_goes 3 = .ok (.iconst 0, 1) := by decide +kernel
theorem dX8_goes_4 : decode cX8_goes 4 = .ok (.istore 5, 2) := by decide +kernel
theorem dX8_goes_6 : decode cX8_goes 6 = .ok (.iload 5, 2) := by decide +kernel
theorem dX8_goes_8 : decode cX8_goes 8 = .ok (.iload_n 1, 1) := by decide +kernel
theorem dX8_goes_9 : decode cX8_goes 9 = .ok (.if_icmp .ge 99, 3) := by decide +kernel
theorem dX8_goes_12 : decode cX8_goes 12 = .ok (.iload 4, 2) := by decide +kernel
theorem dX8_goes_14 : decode cX8_goes 14 = .ok (.ifCond .eq 94, 3) := by decide +kernel
theorem dX8_goes_17 : decode cX8_goes 17 = .ok (.aload_n 0, 1) := by decide +kernel
theorem dX8_goes_18 : decode cX8_goes 18 = .ok (.getfield 25, 3) := by decide +kernel
theorem dX8_goes_21 : decode cX8_goes 21 = .ok (.iload 5, 2) := by decide +kernel
theorem dX8_goes_23 : decode cX8_goes 23 = .ok (.iaload, 1) := by decide +kernel
theorem dX8_goes_24 : decode cX8_goes 24 = .ok (.iload_n 2, 1) := by decide +kernel
theorem dX8_goes_25 : decode cX8_goes 25 = .ok (.iload_n 3, 1) := by decide +kernel
theorem dX8_goes_26 : decode cX8_goes 26 = .ok (.aload_n 0, 1) := by decide +kernel
theorem dX8_goes_27 : decode cX8_goes 27 = .ok (.getfield 99, 3) := by decide +kernel
theorem dX8_goes_30 : decode cX8_goes 30 = .ok (.invokestatic 133, 3) := by decide +kernel
theorem dX8_goes_33 : decode cX8_goes 33 = .ok (.istore 6, 2) := by decide +kernel
theorem dX8_goes_35 : decode cX8_goes 35 = .ok (.aload_n 0, 1) := by decide +kernel
theorem dX8_goes_36 : decode cX8_goes 36 = .ok (.getfield 31, 3) := by decide +kernel
theorem dX8_goes_39 : decode cX8_goes 39 = .ok (.iload 6, 2) := by decide +kernel
theorem dX8_goes_41 : decode cX8_goes 41 = .ok (.iaload, 1) := by decide +kernel
theorem dX8_goes_42 : decode cX8_goes 42 = .ok (.iconst (-1), 1) := by decide +kernel
theorem dX8_goes_43 : decode cX8_goes 43 = .ok (.if_icmp .ne 7, 3) := by decide +kernel
theorem dX8_goes_46 : decode cX8_goes 46 = .ok (.iconst 1, 1) := by decide +kernel
theorem dX8_goes_47 : decode cX8_goes 47 = .ok (.goto 4, 3) := by decide +kernel
theorem dX8_goes_50 : decode cX8_goes 50 = .ok (.iconst 0, 1) := by decide +kernel
theorem dX8_goes_51 : decode cX8_goes 51 = .ok (.istore 4, 2) := by decide +kernel
theorem dX8_goes_53 : decode cX8_goes 53 = .ok (.iconst 0, 1) := by decide +kernel
theorem dX8_goes_54 : decode cX8_goes 54 = .ok (.istore 7, 2) := by decide +kernel
theorem dX8_goes_56 : decode cX8_goes 56 = .ok (.iload 7, 2) := by decide +kernel
theorem dX8_goes_58 : decode cX8_goes 58 = .ok (.iload 5, 2) := by decide +kernel
theorem dX8_goes_60 : decode cX8_goes 60 = .ok (.if_icmp .ge 42, 3) := by decide +kernel
theorem dX8_goes_63 : decode cX8_goes 63 = .ok (.iload 4, 2) := by decide +kernel
theorem dX8_goes_65 : decode cX8_goes 65 = .ok (.ifCond .eq 37, 3) := by decide +kernel
theorem dX8_goes_68 : decode cX8_goes 68 = .ok (.aload_n 0, 1) := by decide +kernel
theorem dX8_goes_69 : decode cX8_goes 69 = .ok (.getfield 25, 3) := by decide +kernel
theorem dX8_goes_72 : decode cX8_goes 72 = .ok (.iload 7, 2) := by decide +kernel
theorem dX8_goes_74 : decode cX8_goes 74 = .ok (.iaload, 1) := by decide +kernel
theorem dX8_goes_75 : decode cX8_goes 75 = .ok (.iload_n 2, 1) := by decide +kernel
theorem dX8_goes_76 : decode cX8_goes 76 = .ok (.iload_n 3, 1) := by decide +kernel
theorem dX8_goes_77 : decode cX8_goes 77 = .ok (.aload_n 0, 1) := by decide +kernel
theorem dX8_goes_78 : decode cX8_goes 78 = .ok (.getfield 99, 3) := by decide +kernel
theorem dX8_goes_81 : decode cX8_goes 81 = .ok (.invokestatic 133, 3) := by decide +kernel
theorem dX8_goes_84 : decode cX8_goes 84 = .ok (.iload 6, 2) := by decide +kernel
theorem dX8_goes_86 : decode cX8_goes 86 = .ok (.if_icmp .eq 7, 3) := by decide +kernel
theorem dX8_goes_89 : decode cX8_goes 89 = .ok (.iconst 1, 1) := by decide +kernel
theorem dX8_goes_90 : decode cX8_goes 90 = .ok (.goto 4, 3) := by decide +kernel
theorem dX8_goes_93 : decode cX8_goes 93 = .ok (.iconst 0, 1) := by decide +kernel
theorem dX8_goes_94 : decode cX8_goes 94 = .ok (.istore 4, 2) := by decide +kernel
theorem dX8_goes_96 : decode cX8_goes 96 = .ok (.iinc 7 1, 3) := by decide +kernel
theorem dX8_goes_99 : decode cX8_goes 99 = .ok (.goto (-43), 3) := by decide +kernel
theorem dX8_goes_102 : decode cX8_goes 102 = .ok (.iinc 5 1, 3) := by decide +kernel
theorem dX8_goes_105 : decode cX8_goes 105 = .ok (.goto (-99), 3) := by decide +kernel
theorem dX8_goes_108 : decode cX8_goes 108 = .ok (.iload 4, 2) := by decide +kernel
theorem dX8_goes_110 : decode cX8_goes 110 = .ok (.ireturn, 1) := by decide +kernel
set_option maxRecDepth 20000 in
theorem ggX8_lays_X8_gather : GoodIn wsX8_lays wsX8_gather := goodIn_r _ [9, 4, 10, 3, 11, 12, 8, 13, 14, 15, 16, 17, 18, 19, 20, 21, 22, 23, 24, 25, 26, 27, 28, 29, 30, 31, 32, 33, 34, 35, 36, 37, 38, 39, 40, 41, 52, 53, 54, 55, 56, 57, 58, 59, 60, 61, 62, 63, 64, 65, 66, 67, 68, 69, 70, 71] (by decide +kernel) (by decide +kernel)
set_option maxRecDepth 20000 in
theorem gX8_lays_X8_gather : GoodIn wsX8_lays (wsV RX8 137 RX8 yX8_gather wsX8_gather) := goodIn_app (goodIn_of _ (by decide +kernel)) ggX8_lays_X8_gather
set_option maxRecDepth 20000 in
theorem ggX8_lays_X8_goes : GoodIn wsX8_lays wsX8_goes := goodIn_r _ [45, 3, 4, 2, 46, 47, 8, 48, 11, 12, 13, 14, 15, 16, 17, 18, 19, 20, 21, 22, 23, 24, 25, 26, 27, 28, 29, 30, 31, 32, 33, 34, 35, 36, 37, 38, 39, 40, 41, 49, 50, 51, 52, 53, 54, 55, 56, 57, 58, 59, 60, 61, 62, 63, 64, 65, 66, 67, 68, 69, 70, 71] (by decide +kernel) (by decide +kernel)
set_option maxRecDepth 20000 in
theorem gX8_lays_X8_goes : GoodIn wsX8_lays (wsV RX8 140 RX8 yX8_goes wsX8_goes) := goodIn_app (goodIn_of _ (by decide +kernel)) ggX8_lays_X8_goes
set_option maxRecDepth 20000 in
theorem ggX8_lays_X8_place : GoodIn wsX8_lays wsX8_place := goodIn_r _ [48, 11, 12, 8, 13, 14, 15, 16, 17, 18, 19, 20, 21, 22, 23, 24, 25, 26, 27, 28, 29, 30, 31, 32, 33, 34, 35, 36, 37, 38, 39, 40, 41, 49, 50, 51] (by decide +kernel) (by decide +kernel)
set_option maxRecDepth 20000 in
theorem gX8_lays_X8_place : GoodIn wsX8_lays (va_wsS RX8 133 yX8_place wsX8_place) := goodIn_app (goodIn_of _ (by decide +kernel)) ggX8_lays_X8_place
theorem dX8_lays_0 : decode cX8_lays 0 = .ok (.aload_n 0, 1) := by decide +kernel
theorem dX8_lays_1 : decode cX8_lays 1 = .ok (.iload_n 1, 1) := by decide +kernel
theorem dX8_lays_2 : decode cX8_lays 2 = .ok (.iload_n 2, 1) := by decide +kernel
theorem dX8_lays_3 : decode cX8_lays 3 = .ok (.iload_n 3, 1) := by decide +kernel
theorem dX8_lays_4 : decode cX8_lays 4 = .ok (.invokevirtual 137, 3) := by decide +kernel
theorem dX8_lays_7 : decode cX8_lays 7 = .ok (.istore 4, 2) := by decide +kernel
theorem dX8_lays_9 : decode cX8_lays 9 = .ok (.iconst 0, 1) := by decide +kernel
theorem dX8_lays_10 : decode cX8_lays 10 = .ok (.istore 5, 2) := by decide +kernel
theorem dX8_lays_12 : decode cX8_lays 12 = .ok (.iload 5, 2) := by decide +kernel
theorem dX8_lays_14 : decode cX8_lays 14 = .ok (.sipush 512, 3) := by decide +kernel
theorem dX8_lays_17 : decode cX8_lays 17 = .ok (.if_icmp .ge 21, 3) := by decide +kernel
theorem dX8_lays_20 : decode cX8_lays 20 = .ok (.aload_n 0, 1) := by decide +kernel
theorem dX8_lays_21 : decode cX8_lays 21 = .ok (.iload 4, 2) := by decide +kernel
theorem dX8_lays_23 : decode cX8_lays 23 = .ok (.iload_n 2, 1) := by decide +kernel
theorem dX8_lays_24 : decode cX8_lays 24 = .ok (.iload 5, 2) := by decide +kernel
theorem dX8_lays_26 : decode cX8_lays 26 = .ok (.invokevirtual 140, 3) := by decide +kernel
theorem dX8_lays_29 : decode cX8_lays 29 = .ok (.ifCond .ne 9, 3) := by decide +kernel
theorem dX8_lays_32 : decode cX8_lays 32 = .ok (.iinc 5 1, 3) := by decide +kernel
theorem dX8_lays_35 : decode cX8_lays 35 = .ok (.goto (-23), 3) := by decide +kernel
theorem dX8_lays_38 : decode cX8_lays 38 = .ok (.iload 5, 2) := by decide +kernel
theorem dX8_lays_40 : decode cX8_lays 40 = .ok (.sipush 512, 3) := by decide +kernel
theorem dX8_lays_43 : decode cX8_lays 43 = .ok (.if_icmp .ne 5, 3) := by decide +kernel
theorem dX8_lays_46 : decode cX8_lays 46 = .ok (.iconst 0, 1) := by decide +kernel
theorem dX8_lays_47 : decode cX8_lays 47 = .ok (.ireturn, 1) := by decide +kernel
theorem dX8_lays_48 : decode cX8_lays 48 = .ok (.aload_n 0, 1) := by decide +kernel
theorem dX8_lays_49 : decode cX8_lays 49 = .ok (.getfield 28, 3) := by decide +kernel
theorem dX8_lays_52 : decode cX8_lays 52 = .ok (.iload_n 1, 1) := by decide +kernel
theorem dX8_lays_53 : decode cX8_lays 53 = .ok (.iload 5, 2) := by decide +kernel
theorem dX8_lays_55 : decode cX8_lays 55 = .ok (.iastore, 1) := by decide +kernel
theorem dX8_lays_56 : decode cX8_lays 56 = .ok (.iconst 0, 1) := by decide +kernel
theorem dX8_lays_57 : decode cX8_lays 57 = .ok (.istore 6, 2) := by decide +kernel
theorem dX8_lays_59 : decode cX8_lays 59 = .ok (.iload 6, 2) := by decide +kernel
theorem dX8_lays_61 : decode cX8_lays 61 = .ok (.iload 4, 2) := by decide +kernel
theorem dX8_lays_63 : decode cX8_lays 63 = .ok (.if_icmp .ge 38, 3) := by decide +kernel
theorem dX8_lays_66 : decode cX8_lays 66 = .ok (.aload_n 0, 1) := by decide +kernel
theorem dX8_lays_67 : decode cX8_lays 67 = .ok (.getfield 31, 3) := by decide +kernel
theorem dX8_lays_70 : decode cX8_lays 70 = .ok (.aload_n 0, 1) := by decide +kernel
theorem dX8_lays_71 : decode cX8_lays 71 = .ok (.getfield 25, 3) := by decide +kernel
theorem dX8_lays_74 : decode cX8_lays 74 = .ok (.iload 6, 2) := by decide +kernel
theorem dX8_lays_76 : decode cX8_lays 76 = .ok (.iaload, 1) := by decide +kernel
theorem dX8_lays_77 : decode cX8_lays 77 = .ok (.iload_n 2, 1) := by decide +kernel
theorem dX8_lays_78 : decode cX8_lays 78 = .ok (.iload 5, 2) := by decide +kernel
theorem dX8_lays_80 : decode cX8_lays 80 = .ok (.aload_n 0, 1) := by decide +kernel
theorem dX8_lays_81 : decode cX8_lays 81 = .ok (.getfield 99, 3) := by decide +kernel
theorem dX8_lays_84 : decode cX8_lays 84 = .ok (.invokestatic 133, 3) := by decide +kernel
theorem dX8_lays_87 : decode cX8_lays 87 = .ok (.aload_n 0, 1) := by decide +kernel
theorem dX8_lays_88 : decode cX8_lays 88 = .ok (.getfield 25, 3) := by decide +kernel
theorem dX8_lays_91 : decode cX8_lays 91 = .ok (.iload 6, 2) := by decide +kernel
theorem dX8_lays_93 : decode cX8_lays 93 = .ok (.iaload, 1) := by decide +kernel
theorem dX8_lays_94 : decode cX8_lays 94 = .ok (.iastore, 1) := by decide +kernel
theorem dX8_lays_95 : decode cX8_lays 95 = .ok (.iinc 6 1, 3) := by decide +kernel
theorem dX8_lays_98 : decode cX8_lays 98 = .ok (.goto (-39), 3) := by decide +kernel
theorem dX8_lays_101 : decode cX8_lays 101 = .ok (.iconst 1, 1) := by decide +kernel
theorem dX8_lays_102 : decode cX8_lays 102 = .ok (.ireturn, 1) := by decide +kernel
set_option maxRecDepth 20000 in
theorem ggX8_displaces_X8_gather : GoodIn wsX8_displaces wsX8_gather := goodIn_r _ [7, 8, 9, 10, 11, 12, 6, 13, 14, 15, 16, 17, 18, 19, 20, 21, 22, 23, 24, 25, 26, 27, 28, 29, 30, 31, 32, 33, 34, 35, 36, 37, 38, 39, 40, 41, 56, 57, 58, 59, 60, 61, 62, 63, 64, 65, 66, 67, 68, 69, 70, 71, 72, 73, 74, 75] (by decide +kernel) (by decide +kernel)
set_option maxRecDepth 20000 in
theorem gX8_displaces_X8_gather : GoodIn wsX8_displaces (wsV RX8 137 RX8 yX8_gather wsX8_gather) := goodIn_app (goodIn_of _ (by decide +kernel)) ggX8_displaces_X8_gather
set_option maxRecDepth 20000 in
theorem ggX8_displaces_X8_lays : GoodIn wsX8_displaces wsX8_lays := goodIn_r _ [45, 2, 1, 10, 8, 3, 4, 5, 6, 7, 9, 11, 12, 13, 14, 15, 16, 17, 18, 19, 20, 21, 22, 23, 24, 25, 26, 27, 28, 29, 30, 31, 32, 33, 34, 35, 36, 37, 38, 39, 40, 41, 46, 47, 48, 49, 50, 51, 52, 53, 54, 55, 56, 57, 58, 59, 60, 61, 62, 63, 64, 65, 66, 67, 68, 69, 70, 71, 72, 73, 74, 75] (by decide +kernel) (by decide +kernel)
set_option maxRecDepth 20000 in
theorem gX8_displaces_X8_lays : GoodIn wsX8_displaces (wsV RX8 143 RX8 yX8_lays wsX8_lays) := goodIn_app (goodIn_of _ (by decide +kernel)) ggX8_displaces_X8_lays
theorem dX8_displaces_0 : decode cX8_displaces 0 = .ok (.iconst 0, 1) := by decide +kernel
theorem dX8_displaces_1 : decode cX8_displaces 1 = .ok (.istore_n 3, 1) := by decide +kernel
theorem dX8_displaces_2 : decode cX8_displaces 2 = .ok (.iconst 0, 1) := by decide +kernel
theorem dX8_displaces_3 : decode cX8_displaces 3 = .ok (.istore 4, 2) := by decide +kernel
theorem dX8_displaces_5 : decode cX8_displaces 5 = .ok (.iload 4, 2) := by decide +kernel
theorem dX8_displaces_7 : decode cX8_displaces 7 = .ok (.bipush 120, 2) := by decide +kernel
theorem dX8_displaces_9 : decode cX8_displaces 9 = .ok (.if_icmp .ge 25, 3) := by decide +kernel
theorem dX8_displaces_12 : decode cX8_displaces 12 = .ok (.aload_n 0, 1) := by decide +kernel
theorem dX8_displaces_13 : decode cX8_displaces 13 = .ok (.getfield 31, 3) := by decide +kernel
theorem dX8_displaces_16 : decode cX8_displaces 16 = .ok (.iload 4, 2) := by decide +kernel
theorem dX8_displaces_18 : decode cX8_displaces 18 = .ok (.iconst (-1), 1) := by decide +kernel
theorem dX8_displaces_19 : decode cX8_displaces 19 = .ok (.iastore, 1) := by decide +kernel
theorem dX8_displaces_20 : decode cX8_displaces 20 = .ok (.aload_n 0, 1) := by decide +kernel
theorem dX8_displaces_21 : decode cX8_displaces 21 = .ok (.getfield 28, 3) := by decide +kernel
theorem dX8_displaces_24 : decode cX8_displaces 24 = .ok (.iload 4, 2) := by decide +kernel
theorem dX8_displaces_26 : decode cX8_displaces 26 = .ok (.iconst 0, 1) := by decide +kernel
theorem dX8_displaces_27 : decode cX8_displaces 27 = .ok (.iastore, 1) := by decide +kernel
theorem dX8_displaces_28 : decode cX8_displaces 28 = .ok (.iinc 4 1, 3) := by decide +kernel
theorem dX8_displaces_31 : decode cX8_displaces 31 = .ok (.goto (-26), 3) := by decide +kernel
theorem dX8_displaces_34 : decode cX8_displaces 34 = .ok (.iconst 0, 1) := by decide +kernel
theorem dX8_displaces_35 : decode cX8_displaces 35 = .ok (.istore 4, 2) := by decide +kernel
theorem dX8_displaces_37 : decode cX8_displaces 37 = .ok (.iload 4, 2) := by decide +kernel
theorem dX8_displaces_39 : decode cX8_displaces 39 = .ok (.iload_n 2, 1) := by decide +kernel
theorem dX8_displaces_40 : decode cX8_displaces 40 = .ok (.if_icmp .ge 32, 3) := by decide +kernel
theorem dX8_displaces_43 : decode cX8_displaces 43 = .ok (.aload_n 0, 1) := by decide +kernel
theorem dX8_displaces_44 : decode cX8_displaces 44 = .ok (.iload 4, 2) := by decide +kernel
theorem dX8_displaces_46 : decode cX8_displaces 46 = .ok (.iload_n 1, 1) := by decide +kernel
theorem dX8_displaces_47 : decode cX8_displaces 47 = .ok (.iload_n 2, 1) := by decide +kernel
theorem dX8_displaces_48 : decode cX8_displaces 48 = .ok (.invokevirtual 137, 3) := by decide +kernel
theorem dX8_displaces_51 : decode cX8_displaces 51 = .ok (.istore 5, 2) := by decide +kernel
theorem dX8_displaces_53 : decode cX8_displaces 53 = .ok (.iload 5, 2) := by decide +kernel
theorem dX8_displaces_55 : decode cX8_displaces 55 = .ok (.iload_n 3, 1) := by decide +kernel
theorem dX8_displaces_56 : decode cX8_displaces 56 = .ok (.if_icmp .le 8, 3) := by decide +kernel
theorem dX8_displaces_59 : decode cX8_displaces 59 = .ok (.iload 5, 2) := by decide +kernel
theorem dX8_displaces_61 : decode cX8_displaces 61 = .ok (.goto 4, 3) := by decide +kernel
theorem dX8_displaces_64 : decode cX8_displaces 64 = .ok (.iload_n 3, 1) := by decide +kernel
theorem dX8_displaces_65 : decode cX8_displaces 65 = .ok (.istore_n 3, 1) := by decide +kernel
theorem dX8_displaces_66 : decode cX8_displaces 66 = .ok (.iinc 4 1, 3) := by decide +kernel
theorem dX8_displaces_69 : decode cX8_displaces 69 = .ok (.goto (-32), 3) := by decide +kernel
theorem dX8_displaces_72 : decode cX8_displaces 72 = .ok (.iconst 1, 1) := by decide +kernel
theorem dX8_displaces_73 : decode cX8_displaces 73 = .ok (.istore 4, 2) := by decide +kernel
theorem dX8_displaces_75 : decode cX8_displaces 75 = .ok (.iload_n 3, 1) := by decide +kernel
theorem dX8_displaces_76 : decode cX8_displaces 76 = .ok (.istore 5, 2) := by decide +kernel
theorem dX8_displaces_78 : decode cX8_displaces 78 = .ok (.iload 5, 2) := by decide +kernel
theorem dX8_displaces_80 : decode cX8_displaces 80 = .ok (.ifCond .le 65, 3) := by decide +kernel
theorem dX8_displaces_83 : decode cX8_displaces 83 = .ok (.iload 4, 2) := by decide +kernel
theorem dX8_displaces_85 : decode cX8_displaces 85 = .ok (.ifCond .eq 60, 3) := by decide +kernel
theorem dX8_displaces_88 : decode cX8_displaces 88 = .ok (.iconst 0, 1) := by decide +kernel
theorem dX8_displaces_89 : decode cX8_displaces 89 = .ok (.istore 6, 2) := by decide +kernel
theorem dX8_displaces_91 : decode cX8_displaces 91 = .ok (.iload 6, 2) := by decide +kernel
theorem dX8_displaces_93 : decode cX8_displaces 93 = .ok (.iload_n 2, 1) := by decide +kernel
theorem dX8_displaces_94 : decode cX8_displaces 94 = .ok (.if_icmp .ge 45, 3) := by decide +kernel
theorem dX8_displaces_97 : decode cX8_displaces 97 = .ok (.iload 4, 2) := by decide +kernel
theorem dX8_displaces_99 : decode cX8_displaces 99 = .ok (.ifCond .eq 40, 3) := by decide +kernel
theorem dX8_displaces_102 : decode cX8_displaces 102 = .ok (.aload_n 0, 1) := by decide +kernel
theorem dX8_displaces_103 : decode cX8_displaces 103 = .ok (.iload 6, 2) := by decide +kernel
theorem dX8_displaces_105 : decode cX8_displaces 105 = .ok (.iload_n 1, 1) := by decide +kernel
theorem dX8_displaces_106 : decode cX8_displaces 106 = .ok (.iload_n 2, 1) := by decide +kernel
theorem dX8_displaces_107 : decode cX8_displaces 107 = .ok (.invokevirtual 137, 3) := by decide +kernel
theorem dX8_displaces_110 : decode cX8_displaces 110 = .ok (.iload 5, 2) := by decide +kernel
theorem dX8_displaces_112 : decode cX8_displaces 112 = .ok (.if_icmp .ne 14, 3) := by decide +kernel
theorem dX8_displaces_115 : decode cX8_displaces 115 = .ok (.aload_n 0, 1) := by decide +kernel
theorem dX8_displaces_116 : decode cX8_displaces 116 = .ok (.iload 6, 2) := by decide +kernel
theorem dX8_displaces_118 : decode cX8_displaces 118 = .ok (.iload_n 1, 1) := by decide +kernel
theorem dX8_displaces_119 : decode cX8_displaces 119 = .ok (.iload_n 2, 1) := by decide +kernel
theorem dX8_displaces_120 : decode cX8_displaces 120 = .ok (.invokevirtual 143, 3) := by decide +kernel
theorem dX8_displaces_123 : decode cX8_displaces 123 = .ok (.ifCond .eq 7, 3) := by decide +kernel
theorem dX8_displaces_126 : decode cX8_displaces 126 = .ok (.iconst 1, 1) := by decide +kernel
theorem dX8_displaces_127 : decode cX8_displaces 127 = .ok (.goto 4, 3) := by decide +kernel
theorem dX8_displaces_130 : decode cX8_displaces 130 = .ok (.iconst 0, 1) := by decide +kernel
theorem dX8_displaces_131 : decode cX8_displaces 131 = .ok (.istore 4, 2) := by decide +kernel
theorem dX8_displaces_133 : decode cX8_displaces 133 = .ok (.iinc 6 1, 3) := by decide +kernel
theorem dX8_displaces_136 : decode cX8_displaces 136 = .ok (.goto (-45), 3) := by decide +kernel
theorem dX8_displaces_139 : decode cX8_displaces 139 = .ok (.iinc 5 (-1), 3) := by decide +kernel
theorem dX8_displaces_142 : decode cX8_displaces 142 = .ok (.goto (-64), 3) := by decide +kernel
theorem dX8_displaces_145 : decode cX8_displaces 145 = .ok (.iload 4, 2) := by decide +kernel
theorem dX8_displaces_147 : decode cX8_displaces 147 = .ok (.ireturn, 1) := by decide +kernel
theorem dX8_root_0 : decode cX8_root 0 = .ok (.iload_n 1, 1) := by decide +kernel
theorem dX8_root_1 : decode cX8_root 1 = .ok (.istore_n 2, 1) := by decide +kernel
theorem dX8_root_2 : decode cX8_root 2 = .ok (.aload_n 0, 1) := by decide +kernel
theorem dX8_root_3 : decode cX8_root 3 = .ok (.getfield 41, 3) := by decide +kernel
theorem dX8_root_6 : decode cX8_root 6 = .ok (.iload_n 2, 1) := by decide +kernel
theorem dX8_root_7 : decode cX8_root 7 = .ok (.iaload, 1) := by decide +kernel
theorem dX8_root_8 : decode cX8_root 8 = .ok (.iload_n 2, 1) := by decide +kernel
theorem dX8_root_9 : decode cX8_root 9 = .ok (.if_icmp .eq 13, 3) := by decide +kernel
theorem dX8_root_12 : decode cX8_root 12 = .ok (.aload_n 0, 1) := by decide +kernel
theorem dX8_root_13 : decode cX8_root 13 = .ok (.getfield 41, 3) := by decide +kernel
theorem dX8_root_16 : decode cX8_root 16 = .ok (.iload_n 2, 1) := by decide +kernel
theorem dX8_root_17 : decode cX8_root 17 = .ok (.iaload, 1) := by decide +kernel
theorem dX8_root_18 : decode cX8_root 18 = .ok (.istore_n 2, 1) := by decide +kernel
theorem dX8_root_19 : decode cX8_root 19 = .ok (.goto (-17), 3) := by decide +kernel
theorem dX8_root_22 : decode cX8_root 22 = .ok (.iload_n 2, 1) := by decide +kernel
theorem dX8_root_23 : decode cX8_root 23 = .ok (.ireturn, 1) := by decide +kernel
set_option maxRecDepth 20000 in
theorem ggX8_hasNoCircle_X8_hash : GoodIn wsX8_hasNoCircle wsX8_hash := goodIn_r _ [8, 9, 10, 11, 7, 12, 13, 14, 15, 16, 17, 18, 19, 20, 21, 22, 23, 24, 25, 26, 27, 28, 29, 30, 31, 32, 33, 34, 35, 36] (by decide +kernel) (by decide +kernel)
set_option maxRecDepth 20000 in
theorem gX8_hasNoCircle_X8_hash : GoodIn wsX8_hasNoCircle (va_wsS RX8 126 yX8_hash wsX8_hash) := goodIn_app (goodIn_of _ (by decide +kernel)) ggX8_hasNoCircle_X8_hash
set_option maxRecDepth 20000 in
theorem ggX8_hasNoCircle_X8_root : GoodIn wsX8_hasNoCircle wsX8_root := goodIn_r _ [40, 2, 41, 42, 43, 44, 45, 46, 47, 48, 49, 50, 51, 52, 53, 54, 55, 56, 57, 58, 59, 60] (by decide +kernel) (by decide +kernel)
set_option maxRecDepth 20000 in
theorem gX8_hasNoCircle_X8_root : GoodIn wsX8_hasNoCircle (wsV RX8 146 RX8 yX8_root wsX8_root) := goodIn_app (goodIn_of _ (by decide +kernel)) ggX8_hasNoCircle_X8_root
theorem dX8_hasNoCircle_0 : decode cX8_hasNoCircle 0 = .ok (.iconst 0, 1) := by decide +kernel
theorem dX8_hasNoCircle_1 : decode cX8_hasNoCircle 1 = .ok (.istore_n 2, 1) := by decide +kernel
theorem dX8_hasNoCircle_2 : decode cX8_hasNoCircle 2 = .ok (.iload_n 2, 1) := by decide +kernel
theorem dX8_hasNoCircle_3 : decode cX8_hasNoCircle 3 = .ok (.iconst 3, 1) := by decide +kernel
theorem dX8_hasNoCircle_4 : decode cX8_hasNoCircle 4 = .ok (.aload_n 0, 1) := by decide +kernel
theorem dX8_hasNoCircle_5 : decode cX8_hasNoCircle 5 = .ok (.getfield 99, 3) := by decide +kernel
theorem dX8_hasNoCircle_8 : decode cX8_hasNoCircle 8 = .ok (.imul, 1) := by decide +kernel
theorem dX8_hasNoCircle_9 : decode cX8_hasNoCircle 9 = .ok (.if_icmp .ge 16, 3) := by decide +kernel
theorem dX8_hasNoCircle_12 : decode cX8_hasNoCircle 12 = .ok (.aload_n 0, 1) := by decide +kernel
theorem dX8_hasNoCircle_13 : decode cX8_hasNoCircle 13 = .ok (.getfield 41, 3) := by decide +kernel
theorem dX8_hasNoCircle_16 : decode cX8_hasNoCircle 16 = .ok (.iload_n 2, 1) := by decide +kernel
theorem dX8_hasNoCircle_17 : decode cX8_hasNoCircle 17 = .ok (.iload_n 2, 1) := by decide +kernel
theorem dX8_hasNoCircle_18 : decode cX8_hasNoCircle 18 = .ok (.iastore, 1) := by decide +kernel
theorem dX8_hasNoCircle_19 : decode cX8_hasNoCircle 19 = .ok (.iinc 2 1, 3) := by decide +kernel
theorem dX8_hasNoCircle_22 : decode cX8_hasNoCircle 22 = .ok (.goto (-20), 3) := by decide +kernel
theorem dX8_hasNoCircle_25 : decode cX8_hasNoCircle 25 = .ok (.iconst 1, 1) := by decide +kernel
theorem dX8_hasNoCircle_26 : decode cX8_hasNoCircle 26 = .ok (.istore_n 2, 1) := by decide +kernel
theorem dX8_hasNoCircle_27 : decode cX8_hasNoCircle 27 = .ok (.iconst 0, 1) := by decide +kernel
theorem dX8_hasNoCircle_28 : decode cX8_hasNoCircle 28 = .ok (.istore_n 3, 1) := by decide +kernel
theorem dX8_hasNoCircle_29 : decode cX8_hasNoCircle 29 = .ok (.iload_n 3, 1) := by decide +kernel
theorem dX8_hasNoCircle_30 : decode cX8_hasNoCircle 30 = .ok (.aload_n 0, 1) := by decide +kernel
theorem dX8_hasNoCircle_31 : decode cX8_hasNoCircle 31 = .ok (.getfield 99, 3) := by decide +kernel
theorem dX8_hasNoCircle_34 : decode cX8_hasNoCircle 34 = .ok (.if_icmp .ge 143, 3) := by decide +kernel
theorem dX8_hasNoCircle_37 : decode cX8_hasNoCircle 37 = .ok (.iload_n 2, 1) := by decide +kernel
theorem dX8_hasNoCircle_38 : decode cX8_hasNoCircle 38 = .ok (.ifCond .eq 139, 3) := by decide +kernel
theorem dX8_hasNoCircle_41 : decode cX8_hasNoCircle 41 = .ok (.aload_n 0, 1) := by decide +kernel
theorem dX8_hasNoCircle_42 : decode cX8_hasNoCircle 42 = .ok (.getfield 44, 3) := by decide +kernel
theorem dX8_hasNoCircle_45 : decode cX8_hasNoCircle 45 = .ok (.iconst 2, 1) := by decide +kernel
theorem dX8_hasNoCircle_46 : decode cX8_hasNoCircle 46 = .ok (.iload_n 3, 1) := by decide +kernel
theorem dX8_hasNoCircle_47 : decode cX8_hasNoCircle 47 = .ok (.imul, 1) := by decide +kernel
theorem dX8_hasNoCircle_48 : decode cX8_hasNoCircle 48 = .ok (.iconst 4, 1) := by decide +kernel
theorem dX8_hasNoCircle_49 : decode cX8_hasNoCircle 49 = .ok (.aload_n 0, 1) := by decide +kernel
theorem dX8_hasNoCircle_50 : decode cX8_hasNoCircle 50 = .ok (.getfield 7, 3) := by decide +kernel
theorem dX8_hasNoCircle_53 : decode cX8_hasNoCircle 53 = .ok (.iload_n 3, 1) := by decide +kernel
theorem dX8_hasNoCircle_54 : decode cX8_hasNoCircle 54 = .ok (.iaload, 1) := by decide +kernel
theorem dX8_hasNoCircle_55 : decode cX8_hasNoCircle 55 = .ok (.iload_n 1, 1) := by decide +kernel
theorem dX8_hasNoCircle_56 : decode cX8_hasNoCircle 56 = .ok (.invokestatic 126, 3) := by decide +kernel
theorem dX8_hasNoCircle_59 : decode cX8_hasNoCircle 59 = .ok (.iconst 3, 1) := by decide +kernel
theorem dX8_hasNoCircle_60 : decode cX8_hasNoCircle 60 = .ok (.aload_n 0, 1) := by decide +kernel
theorem dX8_hasNoCircle_61 : decode cX8_hasNoCircle 61 = .ok (.getfield 99, 3) := by decide +kernel
theorem dX8_hasNoCircle_64 : decode cX8_hasNoCircle 64 = .ok (.imul, 1) := by decide +kernel
theorem dX8_hasNoCircle_65 : decode cX8_hasNoCircle 65 = .ok (.irem, 1) := by decide +kernel
theorem dX8_hasNoCircle_66 : decode cX8_hasNoCircle 66 = .ok (.iastore, 1) := by decide +kernel
theorem dX8_hasNoCircle_67 : decode cX8_hasNoCircle 67 = .ok (.aload_n 0, 1) := by decide +kernel
theorem dX8_hasNoCircle_68 : decode cX8_hasNoCircle 68 = .ok (.getfield 44, 3) := by decide +kernel
theorem dX8_hasNoCircle_71 : decode cX8_hasNoCircle 71 = .ok (.iconst 2, 1) := by decide +kernel
theorem dX8_hasNoCircle_72 : decode cX8_hasNoCircle 72 = .ok (.iload_n 3, 1) := by decide +kernel
theorem dX8_hasNoCircle_73 : decode cX8_hasNoCircle 73 = .ok (.imul, 1) := by decide +kernel
theorem dX8_hasNoCircle_74 : decode cX8_hasNoCircle 74 = .ok (.iconst 1, 1) := by decide +kernel
theorem dX8_hasNoCircle_75 : decode cX8_hasNoCircle 75 = .ok (.iadd, 1) := by decide +kernel
theorem dX8_hasNoCircle_76 : decode cX8_hasNoCircle 76 = .ok (.iconst 5, 1) := by decide +kernel
theorem dX8_hasNoCircle_77 : decode cX8_hasNoCircle 77 = .ok (.aload_n 0, 1) := by decide +kernel
theorem dX8_hasNoCircle_78 : decode cX8_hasNoCircle 78 = .ok (.getfield 7, 3) := by decide +kernel
theorem dX8_hasNoCircle_81 : decode cX8_hasNoCircle 81 = .ok (.iload_n 3, 1) := by decide +kernel
theorem dX8_hasNoCircle_82 : decode cX8_hasNoCircle 82 = .ok (.iaload, 1) := by decide +kernel
theorem dX8_hasNoCircle_83 : decode cX8_hasNoCircle 83 = .ok (.iload_n 1, 1) := by decide +kernel
theorem dX8_hasNoCircle_84 : decode cX8_hasNoCircle 84 = .ok (.invokestatic 126, 3) := by decide +kernel
theorem dX8_hasNoCircle_87 : decode cX8_hasNoCircle 87 = .ok (.iconst 3, 1) := by decide +kernel
theorem dX8_hasNoCircle_88 : decode cX8_hasNoCircle 88 = .ok (.aload_n 0, 1) := by decide +kernel
theorem dX8_hasNoCircle_89 : decode cX8_hasNoCircle 89 = .ok (.getfield 99, 3) := by decide +kernel
theorem dX8_hasNoCircle_92 : decode cX8_hasNoCircle 92 = .ok (.imul, 1) := by decide +kernel
theorem dX8_hasNoCircle_93 : decode cX8_hasNoCircle 93 = .ok (.irem, 1) := by decide +kernel
theorem dX8_hasNoCircle_94 : decode cX8_hasNoCircle 94 = .ok (.iastore, 1) := by decide +kernel
theorem dX8_hasNoCircle_95 : decode cX8_hasNoCircle 95 = .ok (.aload_n 0, 1) := by decide +kernel
theorem dX8_hasNoCircle_96 : decode cX8_hasNoCircle 96 = .ok (.aload_n 0, 1) := by decide +kernel
theorem dX8_hasNoCircle_97 : decode cX8_hasNoCircle 97 = .ok (.getfield 44, 3) := by decide +kernel
theorem dX8_hasNoCircle_100 : decode cX8_hasNoCircle 100 = .ok (.iconst 2, 1) := by decide +kernel
theorem dX8_hasNoCircle_101 : decode cX8_hasNoCircle 101 = .ok (.iload_n 3, 1) := by decide +kernel
theorem dX8_hasNoCircle_102 : decode cX8_hasNoCircle 102 = .ok (.imul, 1) := by decide +kernel
theorem dX8_hasNoCircle_103 : decode cX8_hasNoCircle 103 = .ok (.iaload, 1) := by decide +kernel
theorem dX8_hasNoCircle_104 : decode cX8_hasNoCircle 104 = .ok (.invokevirtual 146, 3) := by decide +kernel
theorem dX8_hasNoCircle_107 : decode cX8_hasNoCircle 107 = .ok (.istore 4, 2) := by decide +kernel
theorem dX8_hasNoCircle_109 : decode cX8_hasNoCircle 109 = .ok (.aload_n 0, 1) := by decide +kernel
theorem dX8_hasNoCircle_110 : decode cX8_hasNoCircle 110 = .ok (.aload_n 0, 1) := by decide +kernel
theorem dX8_hasNoCircle_111 : decode cX8_hasNoCircle 111 = .ok (.getfield 44, 3) := by decide +kernel
theorem dX8_hasNoCircle_114 : decode cX8_hasNoCircle 114 = .ok (.iconst 2, 1) := by decide +kernel
theorem dX8_hasNoCircle_115 : decode cX8_hasNoCircle 115 = .ok (.iload_n 3, 1) := by decide +kernel
theorem dX8_hasNoCircle_116 : decode cX8_hasNoCircle 116 = .ok (.imul, 1) := by decide +kernel
theorem dX8_hasNoCircle_117 : decode cX8_hasNoCircle 117 = .ok (.iconst 1, 1) := by decide +kernel
theorem dX8_hasNoCircle_118 : decode cX8_hasNoCircle 118 = .ok (.iadd, 1) := by decide +kernel
theorem dX8_hasNoCircle_119 : decode cX8_hasNoCircle 119 = .ok (.iaload, 1) := by decide +kernel
theorem dX8_hasNoCircle_120 : decode cX8_hasNoCircle 120 = .ok (.invokevirtual 146, 3) := by decide +kernel
theorem dX8_hasNoCircle_123 : decode cX8_hasNoCircle 123 = .ok (.istore 5, 2) := by decide +kernel
theorem dX8_hasNoCircle_125 : decode cX8_hasNoCircle 125 = .ok (.iload 4, 2) := by decide +kernel
theorem dX8_hasNoCircle_127 : decode cX8_hasNoCircle 127 = .ok (.iload 5, 2) := by decide +kernel
theorem dX8_hasNoCircle_129 : decode cX8_hasNoCircle 129 = .ok (.if_icmp .eq 7, 3) := by decide +kernel
theorem dX8_hasNoCircle_132 : decode cX8_hasNoCircle 132 = .ok (.iconst 1, 1) := by decide +kernel
theorem dX8_hasNoCircle_133 : decode cX8_hasNoCircle 133 = .ok (.goto 4, 3) := by decide +kernel
theorem dX8_hasNoCircle_136 : decode cX8_hasNoCircle 136 = .ok (.iconst 0, 1) := by decide +kernel
theorem dX8_hasNoCircle_137 : decode cX8_hasNoCircle 137 = .ok (.istore_n 2, 1) := by decide +kernel
theorem dX8_hasNoCircle_138 : decode cX8_hasNoCircle 138 = .ok (.aload_n 0, 1) := by decide +kernel
theorem dX8_hasNoCircle_139 : decode cX8_hasNoCircle 139 = .ok (.getfield 41, 3) := by decide +kernel
theorem dX8_hasNoCircle_142 : decode cX8_hasNoCircle 142 = .ok (.iload 4, 2) := by decide +kernel
theorem dX8_hasNoCircle_144 : decode cX8_hasNoCircle 144 = .ok (.iload 5, 2) := by decide +kernel
theorem dX8_hasNoCircle_146 : decode cX8_hasNoCircle 146 = .ok (.if_icmp .le 8, 3) := by decide +kernel
theorem dX8_hasNoCircle_149 : decode cX8_hasNoCircle 149 = .ok (.iload 4, 2) := by decide +kernel
theorem dX8_hasNoCircle_151 : decode cX8_hasNoCircle 151 = .ok (.goto 5, 3) := by decide +kernel
theorem dX8_hasNoCircle_154 : decode cX8_hasNoCircle 154 = .ok (.iload 5, 2) := by decide +kernel
theorem dX8_hasNoCircle_156 : decode cX8_hasNoCircle 156 = .ok (.iload 4, 2) := by decide +kernel
theorem dX8_hasNoCircle_158 : decode cX8_hasNoCircle 158 = .ok (.iload 5, 2) := by decide +kernel
theorem dX8_hasNoCircle_160 : decode cX8_hasNoCircle 160 = .ok (.if_icmp .le 8, 3) := by decide +kernel
theorem dX8_hasNoCircle_163 : decode cX8_hasNoCircle 163 = .ok (.iload 5, 2) := by decide +kernel
theorem dX8_hasNoCircle_165 : decode cX8_hasNoCircle 165 = .ok (.goto 5, 3) := by decide +kernel
theorem dX8_hasNoCircle_168 : decode cX8_hasNoCircle 168 = .ok (.iload 4, 2) := by decide +kernel
theorem dX8_hasNoCircle_170 : decode cX8_hasNoCircle 170 = .ok (.iastore, 1) := by decide +kernel
theorem dX8_hasNoCircle_171 : decode cX8_hasNoCircle 171 = .ok (.iinc 3 1, 3) := by decide +kernel
theorem dX8_hasNoCircle_174 : decode cX8_hasNoCircle 174 = .ok (.goto (-145), 3) := by decide +kernel
theorem dX8_hasNoCircle_177 : decode cX8_hasNoCircle 177 = .ok (.iload_n 2, 1) := by decide +kernel
theorem dX8_hasNoCircle_178 : decode cX8_hasNoCircle 178 = .ok (.ireturn, 1) := by decide +kernel
set_option maxRecDepth 20000 in
theorem ggX8_layValues_X8_root : GoodIn wsX8_layValues wsX8_root := goodIn_r _ [8, 9, 10, 11, 12, 13, 14, 15, 16, 17, 18, 19, 20, 21, 22, 23, 24, 25, 26, 27, 28, 29] (by decide +kernel) (by decide +kernel)
set_option maxRecDepth 20000 in
theorem gX8_layValues_X8_root : GoodIn wsX8_layValues (wsV RX8 146 RX8 yX8_root wsX8_root) := goodIn_app (goodIn_of _ (by decide +kernel)) ggX8_layValues_X8_root
theorem dX8_layValues_0 : decode cX8_layValues 0 = .ok (.iconst 0, 1) := by decide +kernel
theorem dX8_layValues_1 : decode cX8_layValues 1 = .ok (.istore_n 1, 1) := by decide +kernel
theorem dX8_layValues_2 : decode cX8_layValues 2 = .ok (.iload_n 1, 1) := by decide +kernel
theorem dX8_layValues_3 : decode cX8_layValues 3 = .ok (.iconst 3, 1) := by decide +kernel
theorem dX8_layValues_4 : decode cX8_layValues 4 = .ok (.aload_n 0, 1) := by decide +kernel
theorem dX8_layValues_5 : decode cX8_layValues 5 = .ok (.getfield 99, 3) := by decide +kernel
theorem dX8_layValues_8 : decode cX8_layValues 8 = .ok (.imul, 1) := by decide +kernel
theorem dX8_layValues_9 : decode cX8_layValues 9 = .ok (.if_icmp .ge 29, 3) := by decide +kernel
theorem dX8_layValues_12 : decode cX8_layValues 12 = .ok (.aload_n 0, 1) := by decide +kernel
theorem dX8_layValues_13 : decode cX8_layValues 13 = .ok (.getfield 38, 3) := by decide +kernel
theorem dX8_layValues_16 : decode cX8_layValues 16 = .ok (.iload_n 1, 1) := by decide +kernel
theorem dX8_layValues_17 : decode cX8_layValues 17 = .ok (.aload_n 0, 1) := by decide +kernel
theorem dX8_layValues_18 : decode cX8_layValues 18 = .ok (.iload_n 1, 1) := by decide +kernel
theorem dX8_layValues_19 : decode cX8_layValues 19 = .ok (.invokevirtual 146, 3) := by decide +kernel
theorem dX8_layValues_22 : decode cX8_layValues 22 = .ok (.iload_n 1, 1) := by decide +kernel
theorem dX8_layValues_23 : decode cX8_layValues 23 = .ok (.if_icmp .ne 7, 3) := by decide +kernel
theorem dX8_layValues_26 : decode cX8_layValues 26 = .ok (.iconst 0, 1) := by decide +kernel
theorem dX8_layValues_27 : decode cX8_layValues 27 = .ok (.goto 4, 3) := by decide +kernel
theorem dX8_layValues_30 : decode cX8_layValues 30 = .ok (.iconst (-1), 1) := by decide +kernel
theorem dX8_layValues_31 : decode cX8_layValues 31 = .ok (.iastore, 1) := by decide +kernel
theorem dX8_layValues_32 : decode cX8_layValues 32 = .ok (.iinc 1 1, 3) := by decide +kernel
theorem dX8_layValues_35 : decode cX8_layValues 35 = .ok (.goto (-33), 3) := by decide +kernel
theorem dX8_layValues_38 : decode cX8_layValues 38 = .ok (.iconst 1, 1) := by decide +kernel
theorem dX8_layValues_39 : decode cX8_layValues 39 = .ok (.istore_n 1, 1) := by decide +kernel
theorem dX8_layValues_40 : decode cX8_layValues 40 = .ok (.iload_n 1, 1) := by decide +kernel
theorem dX8_layValues_41 : decode cX8_layValues 41 = .ok (.ifCond .eq 144, 3) := by decide +kernel
theorem dX8_layValues_44 : decode cX8_layValues 44 = .ok (.iconst 0, 1) := by decide +kernel
theorem dX8_layValues_45 : decode cX8_layValues 45 = .ok (.istore_n 1, 1) := by decide +kernel
theorem dX8_layValues_46 : decode cX8_layValues 46 = .ok (.iconst 0, 1) := by decide +kernel
theorem dX8_layValues_47 : decode cX8_layValues 47 = .ok (.istore_n 2, 1) := by decide +kernel
theorem dX8_layValues_48 : decode cX8_layValues 48 = .ok (.iload_n 2, 1) := by decide +kernel
theorem dX8_layValues_49 : decode cX8_layValues 49 = .ok (.aload_n 0, 1) := by decide +kernel
theorem dX8_layValues_50 : decode cX8_layValues 50 = .ok (.getfield 99, 3) := by decide +kernel
theorem dX8_layValues_53 : decode cX8_layValues 53 = .ok (.if_icmp .ge 129, 3) := by decide +kernel
theorem dX8_layValues_56 : decode cX8_layValues 56 = .ok (.aload_n 0, 1) := by decide +kernel
theorem dX8_layValues_57 : decode cX8_layValues 57 = .ok (.getfield 44, 3) := by decide +kernel
theorem dX8_layValues_60 : decode cX8_layValues 60 = .ok (.iconst 2, 1) := by decide +kernel
theorem dX8_layValues_61 : decode cX8_layValues 61 = .ok (.iload_n 2, 1) := by decide +kernel
theorem dX8_layValues_62 : decode cX8_layValues 62 = .ok (.imul, 1) := by decide +kernel
theorem dX8_layValues_63 : decode cX8_layValues 63 = .ok (.iaload, 1) := by decide +kernel
theorem dX8_layValues_64 : decode cX8_layValues 64 = .ok (.istore_n 3, 1) := by decide +kernel
theorem dX8_layValues_65 : decode cX8_layValues 65 = .ok (.aload_n 0, 1) := by decide +kernel
theorem dX8_layValues_66 : decode cX8_layValues 66 = .ok (.getfield 44, 3) := by decide +kernel
theorem dX8_layValues_69 : decode cX8_layValues 69 = .ok (.iconst 2, 1) := by decide +kernel
theorem dX8_layValues_70 : decode cX8_layValues 70 = .ok (.iload_n 2, 1) := by decide +kernel
theorem dX8_layValues_71 : decode cX8_layValues 71 = .ok (.imul, 1) := by decide +kernel
theorem dX8_layValues_72 : decode cX8_layValues 72 = .ok (.iconst 1, 1) := by decide +kernel
theorem dX8_layValues_73 : decode cX8_layValues 73 = .ok (.iadd, 1) := by decide +kernel
theorem dX8_layValues_74 : decode cX8_layValues 74 = .ok (.iaload, 1) := by decide +kernel
theorem dX8_layValues_75 : decode cX8_layValues 75 = .ok (.istore 4, 2) := by decide +kernel
theorem dX8_layValues_77 : decode cX8_layValues 77 = .ok (.aload_n 0, 1) := by decide +kernel
theorem dX8_layValues_78 : decode cX8_layValues 78 = .ok (.getfield 38, 3) := by decide +kernel
theorem dX8_layValues_81 : decode cX8_layValues 81 = .ok (.iload_n 3, 1) := by decide +kernel
theorem dX8_layValues_82 : decode cX8_layValues 82 = .ok (.iaload, 1) := by decide +kernel
theorem dX8_layValues_83 : decode cX8_layValues 83 = .ok (.iconst (-1), 1) := by decide +kernel
theorem dX8_layValues_84 : decode cX8_layValues 84 = .ok (.if_icmp .eq 44, 3) := by decide +kernel
theorem dX8_layValues_87 : decode cX8_layValues 87 = .ok (.aload_n 0, 1) := by decide +kernel
theorem dX8_layValues_88 : decode cX8_layValues 88 = .ok (.getfield 38, 3) := by decide +kernel
theorem dX8_layValues_91 : decode cX8_layValues 91 = .ok (.iload 4, 2) := by decide +kernel
theorem dX8_layValues_93 : decode cX8_layValues 93 = .ok (.iaload, 1) := by decide +kernel
theorem dX8_layValues_94 : decode cX8_layValues 94 = .ok (.iconst (-1), 1) := by decide +kernel
theorem dX8_layValues_95 : decode cX8_layValues 95 = .ok (.if_icmp .ne 33, 3) := by decide +kernel
theorem dX8_layValues_98 : decode cX8_layValues 98 = .ok (.aload_n 0, 1) := by decide +kernel
theorem dX8_layValues_99 : decode cX8_layValues 99 = .ok (.getfield 38, 3) := by decide +kernel
theorem dX8_layValues_102 : decode cX8_layValues 102 = .ok (.iload 4, 2) := by decide +kernel
theorem dX8_layValues_104 : decode cX8_layValues 104 = .ok (.iload_n 2, 1) := by decide +kernel
theorem dX8_layValues_105 : decode cX8_layValues 105 = .ok (.aload_n 0, 1) := by decide +kernel
theorem dX8_layValues_106 : decode cX8_layValues 106 = .ok (.getfield 99, 3) := by decide +kernel
theorem dX8_layValues_109 : decode cX8_layValues 109 = .ok (.iadd, 1) := by decide +kernel
theorem dX8_layValues_110 : decode cX8_layValues 110 = .ok (.aload_n 0, 1) := by decide +kernel
theorem dX8_layValues_111 : decode cX8_layValues 111 = .ok (.getfield 38, 3) := by decide +kernel
theorem dX8_layValues_114 : decode cX8_layValues 114 = .ok (.iload_n 3, 1) := by decide +kernel
theorem dX8_layValues_115 : decode cX8_layValues 115 = .ok (.iaload, 1) := by decide +kernel
theorem dX8_layValues_116 : decode cX8_layValues 116 = .ok (.isub, 1) := by decide +kernel
theorem dX8_layValues_117 : decode cX8_layValues 117 = .ok (.aload_n 0, 1) := by decide +kernel
theorem dX8_layValues_118 : decode cX8_layValues 118 = .ok (.getfield 99, 3) := by decide +kernel
theorem dX8_layValues_121 : decode cX8_layValues 121 = .ok (.irem, 1) := by decide +kernel
theorem dX8_layValues_122 : decode cX8_layValues 122 = .ok (.iastore, 1) := by decide +kernel
theorem dX8_layValues_123 : decode cX8_layValues 123 = .ok (.iconst 1, 1) := by decide +kernel
theorem dX8_layValues_124 : decode cX8_layValues 124 = .ok (.istore_n 1, 1) := by decide +kernel
theorem dX8_layValues_125 : decode cX8_layValues 125 = .ok (.goto 51, 3) := by decide +kernel
theorem dX8_layValues_128 : decode cX8_layValues 128 = .ok (.aload_n 0, 1) := by decide +kernel
theorem dX8_layValues_129 : decode cX8_layValues 129 = .ok (.getfield 38, 3) := by decide +kernel
theorem dX8_layValues_132 : decode cX8_layValues 132 = .ok (.iload 4, 2) := by decide +kernel
theorem dX8_layValues_134 : decode cX8_layValues 134 = .ok (.iaload, 1) := by decide +kernel
theorem dX8_layValues_135 : decode cX8_layValues 135 = .ok (.iconst (-1), 1) := by decide +kernel
theorem dX8_layValues_136 : decode cX8_layValues 136 = .ok (.if_icmp .eq 40, 3) := by decide +kernel
theorem dX8_layValues_139 : decode cX8_layValues 139 = .ok (.aload_n 0, 1) := by decide +kernel
theorem dX8_layValues_140 : decode cX8_layValues 140 = .ok (.getfield 38, 3) := by decide +kernel
theorem dX8_layValues_143 : decode cX8_layValues 143 = .ok (.iload_n 3, 1) := by decide +kernel
theorem dX8_layValues_144 : decode cX8_layValues 144 = .ok (.iaload, 1) := by decide +kernel
theorem dX8_layValues_145 : decode cX8_layValues 145 = .ok (.iconst (-1), 1) := by decide +kernel
theorem dX8_layValues_146 : decode cX8_layValues 146 = .ok (.if_icmp .ne 30, 3) := by decide +kernel
theorem dX8_layValues_149 : decode cX8_layValues 149 = .ok (.aload_n 0, 1) := by decide +kernel
theorem dX8_layValues_150 : decode cX8_layValues 150 = .ok (.getfield 38, 3) := by decide +kernel
theorem dX8_layValues_153 : decode cX8_layValues 153 = .ok (.iload_n 3, 1) := by decide +kernel
theorem dX8_layValues_154 : decode cX8_layValues 154 = .ok (.iload_n 2, 1) := by decide +kernel
theorem dX8_layValues_155 : decode cX8_layValues 155 = .ok (.aload_n 0, 1) := by decide +kernel
theorem dX8_layValues_156 : decode cX8_layValues 156 = .ok (.getfield 99, 3) := by decide +kernel
theorem dX8_layValues_159 : decode cX8_layValues 159 = .ok (.iadd, 1) := by decide +kernel
theorem dX8_layValues_160 : decode cX8_layValues 160 = .ok (.aload_n 0, 1) := by decide +kernel
theorem dX8_layValues_161 : decode cX8_layValues 161 = .ok (.getfield 38, 3) := by decide +kernel
theorem dX8_layValues_164 : decode cX8_layValues 164 = .ok (.iload 4, 2) := by decide +kernel
theorem dX8_layValues_166 : decode cX8_layValues 166 = .ok (.iaload, 1) := by decide +kernel
theorem dX8_layValues_167 : decode cX8_layValues 167 = .ok (.isub, 1) := by decide +kernel
theorem dX8_layValues_168 : decode cX8_layValues 168 = .ok (.aload_n 0, 1) := by decide +kernel
theorem dX8_layValues_169 : decode cX8_layValues 169 = .ok (.getfield 99, 3) := by decide +kernel
theorem dX8_layValues_172 : decode cX8_layValues 172 = .ok (.irem, 1) := by decide +kernel
theorem dX8_layValues_173 : decode cX8_layValues 173 = .ok (.iastore, 1) := by decide +kernel
theorem dX8_layValues_174 : decode cX8_layValues 174 = .ok (.iconst 1, 1) := by decide +kernel
theorem dX8_layValues_175 : decode cX8_layValues 175 = .ok (.istore_n 1, 1) := by decide +kernel
theorem dX8_layValues_176 : decode cX8_layValues 176 = .ok (.iinc 2 1, 3) := by decide +kernel
theorem dX8_layValues_179 : decode cX8_layValues 179 = .ok (.goto (-131), 3) := by decide +kernel
theorem dX8_layValues_182 : decode cX8_layValues 182 = .ok (.goto (-142), 3) := by decide +kernel
theorem dX8_layValues_185 : decode cX8_layValues 185 = .ok (.return_, 1) := by decide +kernel
theorem dX8_pack_0 : decode cX8_pack 0 = .ok (.iconst 1, 1) := by decide +kernel
theorem dX8_pack_1 : decode cX8_pack 1 = .ok (.istore_n 1, 1) := by decide +kernel
theorem dX8_pack_2 : decode cX8_pack 2 = .ok (.iconst 0, 1) := by decide +kernel
theorem dX8_pack_3 : decode cX8_pack 3 = .ok (.istore_n 2, 1) := by decide +kernel
theorem dX8_pack_4 : decode cX8_pack 4 = .ok (.iload_n 2, 1) := by decide +kernel
theorem dX8_pack_5 : decode cX8_pack 5 = .ok (.aload_n 0, 1) := by decide +kernel
theorem dX8_pack_6 : decode cX8_pack 6 = .ok (.getfield 149, 3) := by decide +kernel
theorem dX8_pack_9 : decode cX8_pack 9 = .ok (.if_icmp .ge 30, 3) := by decide +kernel
theorem dX8_pack_12 : decode cX8_pack 12 = .ok (.aload_n 0, 1) := by decide +kernel
theorem dX8_pack_13 : decode cX8_pack 13 = .ok (.getfield 16, 3) := by decide +kernel
theorem dX8_pack_16 : decode cX8_pack 16 = .ok (.iload_n 2, 1) := by decide +kernel
theorem dX8_pack_17 : decode cX8_pack 17 = .ok (.iaload, 1) := by decide +kernel
theorem dX8_pack_18 : decode cX8_pack 18 = .ok (.iload_n 1, 1) := by decide +kernel
theorem dX8_pack_19 : decode cX8_pack 19 = .ok (.if_icmp .le 12, 3) := by decide +kernel
theorem dX8_pack_22 : decode cX8_pack 22 = .ok (.aload_n 0, 1) := by decide +kernel
theorem dX8_pack_23 : decode cX8_pack 23 = .ok (.getfield 16, 3) := by decide +kernel
theorem dX8_pack_26 : decode cX8_pack 26 = .ok (.iload_n 2, 1) := by decide +kernel
theorem dX8_pack_27 : decode cX8_pack 27 = .ok (.iaload, 1) := by decide +kernel
theorem dX8_pack_28 : decode cX8_pack 28 = .ok (.goto 4, 3) := by decide +kernel
theorem dX8_pack_31 : decode cX8_pack 31 = .ok (.iload_n 1, 1) := by decide +kernel
theorem dX8_pack_32 : decode cX8_pack 32 = .ok (.istore_n 1, 1) := by decide +kernel
theorem dX8_pack_33 : decode cX8_pack 33 = .ok (.iinc 2 1, 3) := by decide +kernel
theorem dX8_pack_36 : decode cX8_pack 36 = .ok (.goto (-32), 3) := by decide +kernel
theorem dX8_pack_39 : decode cX8_pack 39 = .ok (.aload_n 0, 1) := by decide +kernel
theorem dX8_pack_40 : decode cX8_pack 40 = .ok (.iconst 0, 1) := by decide +kernel
theorem dX8_pack_41 : decode cX8_pack 41 = .ok (.putfield 152, 3) := by decide +kernel
theorem dX8_pack_44 : decode cX8_pack 44 = .ok (.iload_n 1, 1) := by decide +kernel
theorem dX8_pack_45 : decode cX8_pack 45 = .ok (.aload_n 0, 1) := by decide +kernel
theorem dX8_pack_46 : decode cX8_pack 46 = .ok (.getfield 152, 3) := by decide +kernel
theorem dX8_pack_49 : decode cX8_pack 49 = .ok (.ishr, 1) := by decide +kernel
theorem dX8_pack_50 : decode cX8_pack 50 = .ok (.ifCond .le 16, 3) := by decide +kernel
theorem dX8_pack_53 : decode cX8_pack 53 = .ok (.aload_n 0, 1) := by decide +kernel
theorem dX8_pack_54 : decode cX8_pack 54 = .ok (.dup, 1) := by decide +kernel
theorem dX8_pack_55 : decode cX8_pack 55 = .ok (.getfield 152, 3) := by decide +kernel
theorem dX8_pack_58 : decode cX8_pack 58 = .ok (.iconst 1, 1) := by decide +kernel
theorem dX8_pack_59 : decode cX8_pack 59 = .ok (.iadd, 1) := by decide +kernel
theorem dX8_pack_60 : decode cX8_pack 60 = .ok (.putfield 152, 3) := by decide +kernel
theorem dX8_pack_63 : decode cX8_pack 63 = .ok (.goto (-19), 3) := by decide +kernel
theorem dX8_pack_66 : decode cX8_pack 66 = .ok (.iconst 0, 1) := by decide +kernel
theorem dX8_pack_67 : decode cX8_pack 67 = .ok (.istore_n 2, 1) := by decide +kernel
theorem dX8_pack_68 : decode cX8_pack 68 = .ok (.iload_n 2, 1) := by decide +kernel
theorem dX8_pack_69 : decode cX8_pack 69 = .ok (.bipush 20, 2) := by decide +kernel
theorem dX8_pack_71 : decode cX8_pack 71 = .ok (.if_icmp .ge 16, 3) := by decide +kernel
theorem dX8_pack_74 : decode cX8_pack 74 = .ok (.aload_n 0, 1) := by decide +kernel
theorem dX8_pack_75 : decode cX8_pack 75 = .ok (.getfield 34, 3) := by decide +kernel
theorem dX8_pack_78 : decode cX8_pack 78 = .ok (.iload_n 2, 1) := by decide +kernel
theorem dX8_pack_79 : decode cX8_pack 79 = .ok (.lconst 0, 1) := by decide +kernel
theorem dX8_pack_80 : decode cX8_pack 80 = .ok (.lastore, 1) := by decide +kernel
theorem dX8_pack_81 : decode cX8_pack 81 = .ok (.iinc 2 1, 3) := by decide +kernel
theorem dX8_pack_84 : decode cX8_pack 84 = .ok (.goto (-16), 3) := by decide +kernel
theorem dX8_pack_87 : decode cX8_pack 87 = .ok (.iconst 0, 1) := by decide +kernel
theorem dX8_pack_88 : decode cX8_pack 88 = .ok (.istore_n 2, 1) := by decide +kernel
theorem dX8_pack_89 : decode cX8_pack 89 = .ok (.iload_n 2, 1) := by decide +kernel
theorem dX8_pack_90 : decode cX8_pack 90 = .ok (.aload_n 0, 1) := by decide +kernel
theorem dX8_pack_91 : decode cX8_pack 91 = .ok (.getfield 149, 3) := by decide +kernel
theorem dX8_pack_94 : decode cX8_pack 94 = .ok (.aload_n 0, 1) := by decide +kernel
theorem dX8_pack_95 : decode cX8_pack 95 = .ok (.getfield 152, 3) := by decide +kernel
theorem dX8_pack_98 : decode cX8_pack 98 = .ok (.imul, 1) := by decide +kernel
theorem dX8_pack_99 : decode cX8_pack 99 = .ok (.if_icmp .ge 49, 3) := by decide +kernel
theorem dX8_pack_102 : decode cX8_pack 102 = .ok (.aload_n 0, 1) := by decide +kernel
theorem dX8_pack_103 : decode cX8_pack 103 = .ok (.getfield 16, 3) := by decide +kernel
theorem dX8_pack_106 : decode cX8_pack 106 = .ok (.iload_n 2, 1) := by decide +kernel
theorem dX8_pack_107 : decode cX8_pack 107 = .ok (.aload_n 0, 1) := by decide +kernel
theorem dX8_pack_108 : decode cX8_pack 108 = .ok (.getfield 152, 3) := by decide +kernel
theorem dX8_pack_111 : decode cX8_pack 111 = .ok (.idiv, 1) := by decide +kernel
theorem dX8_pack_112 : decode cX8_pack 112 = .ok (.iaload, 1) := by decide +kernel
theorem dX8_pack_113 : decode cX8_pack 113 = .ok (.iload_n 2, 1) := by decide +kernel
theorem dX8_pack_114 : decode cX8_pack 114 = .ok (.aload_n 0, 1) := by decide +kernel
theorem dX8_pack_115 : decode cX8_pack 115 = .ok (.getfield 152, 3) := by decide +kernel
theorem dX8_pack_118 : decode cX8_pack 118 = .ok (.irem, 1) := by decide +kernel
theorem dX8_pack_119 : decode cX8_pack 119 = .ok (.ishr, 1) := by decide +kernel
theorem dX8_pack_120 : decode cX8_pack 120 = .ok (.iconst 1, 1) := by decide +kernel
theorem dX8_pack_121 : decode cX8_pack 121 = .ok (.iand, 1) := by decide +kernel
theorem dX8_pack_122 : decode cX8_pack 122 = .ok (.i2l, 1) := by decide +kernel
theorem dX8_pack_123 : decode cX8_pack 123 = .ok (.lstore_n 3, 1) := by decide +kernel
theorem dX8_pack_124 : decode cX8_pack 124 = .ok (.aload_n 0, 1) := by decide +kernel
theorem dX8_pack_125 : decode cX8_pack 125 = .ok (.getfield 34, 3) := by decide +kernel
theorem dX8_pack_128 : decode cX8_pack 128 = .ok (.iload_n 2, 1) := by decide +kernel
theorem dX8_pack_129 : decode cX8_pack 129 = .ok (.bipush 64, 2) := by decide +kernel
theorem dX8_pack_131 : decode cX8_pack 131 = .ok (.idiv, 1) := by decide +kernel
theorem dX8_pack_132 : decode cX8_pack 132 = .ok (.dup2, 1) := by decide +kernel
theorem dX8_pack_133 : decode cX8_pack 133 = .ok (.laload, 1) := by decide +kernel
theorem dX8_pack_134 : decode cX8_pack 134 = .ok (.lload_n 3, 1) := by decide +kernel
theorem dX8_pack_135 : decode cX8_pack 135 = .ok (.iload_n 2, 1) := by decide +kernel
theorem dX8_pack_136 : decode cX8_pack 136 = .ok (.bipush 64, 2) := by decide +kernel
theorem dX8_pack_138 : decode cX8_pack 138 = .ok (.irem, 1) := by decide +kernel
theorem dX8_pack_139 : decode cX8_pack 139 = .ok (.lshl, 1) := by decide +kernel
theorem dX8_pack_140 : decode cX8_pack 140 = .ok (.lor, 1) := by decide +kernel
theorem dX8_pack_141 : decode cX8_pack 141 = .ok (.lastore, 1) := by decide +kernel
theorem dX8_pack_142 : decode cX8_pack 142 = .ok (.iinc 2 1, 3) := by decide +kernel
theorem dX8_pack_145 : decode cX8_pack 145 = .ok (.goto (-56), 3) := by decide +kernel
theorem dX8_pack_148 : decode cX8_pack 148 = .ok (.return_, 1) := by decide +kernel
set_option maxRecDepth 20000 in
theorem ggX8_build_X8_in : GoodIn wsX8_build wsX8_in := goodIn_r _ [17] (by decide +kernel) (by decide +kernel)
set_option maxRecDepth 20000 in
theorem gX8_build_X8_in : GoodIn wsX8_build (va_wsS RX8 107 yX8_in wsX8_in) := goodIn_app (goodIn_of _ (by decide +kernel)) ggX8_build_X8_in
set_option maxRecDepth 20000 in
theorem ggX8_build_X8_fails : GoodIn wsX8_build wsX8_fails := goodIn_r _ [21, 1, 102, 103, 104, 105, 106, 107, 108, 109, 110, 111, 112, 113, 114, 115, 116, 117, 118, 119, 120, 121] (by decide +kernel) (by decide +kernel)
set_option maxRecDepth 20000 in
theorem gX8_build_X8_fails : GoodIn wsX8_build (wsV RX8 111 RX8 yX8_fails wsX8_fails) := goodIn_app (goodIn_of _ (by decide +kernel)) ggX8_build_X8_fails
set_option maxRecDepth 20000 in
theorem ggX8_build_X8_displaces : GoodIn wsX8_build wsX8_displaces := goodIn_r _ [25, 12, 10, 26, 27, 28, 16, 29, 3, 30, 31, 32, 33, 34, 35, 36, 37, 38, 39, 40, 41, 42, 43, 44, 45, 46, 47, 48, 49, 50, 51, 52, 53, 54, 55, 56, 57, 58, 59, 60, 61, 62, 63, 64, 65, 66, 67, 68, 69, 70, 71, 72, 73, 74, 75, 76, 102, 103, 104, 105, 106, 107, 108, 109, 110, 111, 112, 113, 114, 115, 116, 117, 118, 119, 120, 121] (by decide +kernel) (by decide +kernel)
set_option maxRecDepth 20000 in
theorem gX8_build_X8_displaces : GoodIn wsX8_build (wsV RX8 155 RX8 yX8_displaces wsX8_displaces) := goodIn_app (goodIn_of _ (by decide +kernel)) ggX8_build_X8_displaces
set_option maxRecDepth 20000 in
theorem ggX8_build_X8_hasNoCircle : GoodIn wsX8_build wsX8_hasNoCircle := goodIn_r _ [80, 3, 81, 82, 30, 32, 33, 16, 34, 35, 36, 37, 38, 39, 40, 41, 42, 43, 44, 45, 46, 47, 48, 49, 50, 51, 52, 53, 54, 55, 56, 57, 58, 59, 60, 61, 62, 83, 84, 85, 86, 102, 103, 104, 105, 106, 107, 108, 109, 110, 111, 112, 113, 114, 115, 116, 117, 118, 119, 120, 121] (by decide +kernel) (by decide +kernel)
set_option maxRecDepth 20000 in
theorem gX8_build_X8_hasNoCircle : GoodIn wsX8_build (wsV RX8 159 RX8 yX8_hasNoCircle wsX8_hasNoCircle) := goodIn_app (goodIn_of _ (by decide +kernel)) ggX8_build_X8_hasNoCircle
set_option maxRecDepth 20000 in
theorem ggX8_build_X8_gather : GoodIn wsX8_build wsX8_gather := goodIn_r _ [29, 3, 30, 31, 32, 33, 16, 34, 35, 36, 37, 38, 39, 40, 41, 42, 43, 44, 45, 46, 47, 48, 49, 50, 51, 52, 53, 54, 55, 56, 57, 58, 59, 60, 61, 62, 102, 103, 104, 105, 106, 107, 108, 109, 110, 111, 112, 113, 114, 115, 116, 117, 118, 119, 120, 121] (by decide +kernel) (by decide +kernel)
set_option maxRecDepth 20000 in
theorem gX8_build_X8_gather : GoodIn wsX8_build (wsV RX8 137 RX8 yX8_gather wsX8_gather) := goodIn_app (goodIn_of _ (by decide +kernel)) ggX8_build_X8_gather
set_option maxRecDepth 20000 in
theorem ggX8_build_X8_print : GoodIn wsX8_build wsX8_print := goodIn_r _ [90, 4, 6, 32, 33, 16, 34, 35, 36, 37, 38, 39, 40, 41, 42, 43, 44, 45, 46, 47, 48, 49, 50, 51, 52, 53, 54, 55, 56, 57, 58, 59, 60, 61, 62, 102, 103, 104, 105, 106, 107, 108, 109, 110, 111, 112, 113, 114, 115, 116, 117, 118, 119, 120, 121] (by decide +kernel) (by decide +kernel)
set_option maxRecDepth 20000 in
theorem gX8_build_X8_print : GoodIn wsX8_build (wsV RX8 171 RX8 yX8_print wsX8_print) := goodIn_app (goodIn_of _ (by decide +kernel)) ggX8_build_X8_print
set_option maxRecDepth 20000 in
theorem ggX8_build_X8_layValues : GoodIn wsX8_build wsX8_layValues := goodIn_r _ [94, 3, 95, 82, 83, 84, 85, 16, 86, 81, 102, 103, 104, 105, 106, 107, 108, 109, 110, 111, 112, 113, 114, 115, 116, 117, 118, 119, 120, 121] (by decide +kernel) (by decide +kernel)
set_option maxRecDepth 20000 in
theorem gX8_build_X8_layValues : GoodIn wsX8_build (wsV RX8 174 RX8 yX8_layValues wsX8_layValues) := goodIn_app (goodIn_of _ (by decide +kernel)) ggX8_build_X8_layValues
set_option maxRecDepth 20000 in
theorem ggX8_build_X8_pack : GoodIn wsX8_build wsX8_pack := goodIn_r _ [99, 7, 9, 100, 101, 102, 103, 104, 105, 106, 107, 108, 109, 110, 111, 112, 113, 114, 115, 116, 117, 118, 119, 120, 121] (by decide +kernel) (by decide +kernel)
set_option maxRecDepth 20000 in
theorem gX8_build_X8_pack : GoodIn wsX8_build (wsV RX8 177 RX8 yX8_pack wsX8_pack) := goodIn_app (goodIn_of _ (by decide +kernel)) ggX8_build_X8_pack
theorem dX8_build_0 : decode cX8_build 0 = .ok (.aload_n 0, 1) := by decide +kernel
theorem dX8_build_1 : decode cX8_build 1 = .ok (.iconst 0, 1) := by decide +kernel
theorem dX8_build_2 : decode cX8_build 2 = .ok (.putfield 47, 3) := by decide +kernel
theorem dX8_build_5 : decode cX8_build 5 = .ok (.iload_n 1, 1) := by decide +kernel
theorem dX8_build_6 : decode cX8_build 6 = .ok (.iconst 1, 1) := by decide +kernel
theorem dX8_build_7 : decode cX8_build 7 = .ok (.bipush 6, 2) := by decide +kernel
theorem dX8_build_9 : decode cX8_build 9 = .ok (.invokestatic 107, 3) := by decide +kernel
theorem dX8_build_12 : decode cX8_build 12 = .ok (.ifCond .eq 13, 3) := by decide +kernel
theorem dX8_build_15 : decode cX8_build 15 = .ok (.iload_n 2, 1) := by decide +kernel
theorem dX8_build_16 : decode cX8_build 16 = .ok (.iconst 1, 1) := by decide +kernel
theorem dX8_build_17 : decode cX8_build 17 = .ok (.bipush 12, 2) := by decide +kernel
theorem dX8_build_19 : decode cX8_build 19 = .ok (.invokestatic 107, 3) := by decide +kernel
theorem dX8_build_22 : decode cX8_build 22 = .ok (.ifCond .ne 9, 3) := by decide +kernel
theorem dX8_build_25 : decode cX8_build 25 = .ok (.aload_n 0, 1) := by decide +kernel
theorem dX8_build_26 : decode cX8_build 26 = .ok (.iconst 1, 1) := by decide +kernel
theorem dX8_build_27 : decode cX8_build 27 = .ok (.invokevirtual 111, 3) := by decide +kernel
theorem dX8_build_30 : decode cX8_build 30 = .ok (.ireturn, 1) := by decide +kernel
theorem dX8_build_31 : decode cX8_build 31 = .ok (.aload_n 0, 1) := by decide +kernel
theorem dX8_build_32 : decode cX8_build 32 = .ok (.getfield 114, 3) := by decide +kernel
theorem dX8_build_35 : decode cX8_build 35 = .ok (.ifCond .ne 10, 3) := by decide +kernel
theorem dX8_build_38 : decode cX8_build 38 = .ok (.aload_n 0, 1) := by decide +kernel
theorem dX8_build_39 : decode cX8_build 39 = .ok (.getfield 99, 3) := by decide +kernel
theorem dX8_build_42 : decode cX8_build 42 = .ok (.ifCond .ne 9, 3) := by decide +kernel
theorem dX8_build_45 : decode cX8_build 45 = .ok (.aload_n 0, 1) := by decide +kernel
theorem dX8_build_46 : decode cX8_build 46 = .ok (.iconst 2, 1) := by decide +kernel
theorem dX8_build_47 : decode cX8_build 47 = .ok (.invokevirtual 111, 3) := by decide +kernel
theorem dX8_build_50 : decode cX8_build 50 = .ok (.ireturn, 1) := by decide +kernel
theorem dX8_build_51 : decode cX8_build 51 = .ok (.aload_n 0, 1) := by decide +kernel
theorem dX8_build_52 : decode cX8_build 52 = .ok (.getfield 99, 3) := by decide +kernel
theorem dX8_build_55 : decode cX8_build 55 = .ok (.iload_n 1, 1) := by decide +kernel
theorem dX8_build_56 : decode cX8_build 56 = .ok (.iadd, 1) := by decide +kernel
theorem dX8_build_57 : decode cX8_build 57 = .ok (.iconst 1, 1) := by decide +kernel
theorem dX8_build_58 : decode cX8_build 58 = .ok (.isub, 1) := by decide +kernel
theorem dX8_build_59 : decode cX8_build 59 = .ok (.iload_n 1, 1) := by decide +kernel
theorem dX8_build_60 : decode cX8_build 60 = .ok (.idiv, 1) := by decide +kernel
theorem dX8_build_61 : decode cX8_build 61 = .ok (.istore_n 3, 1) := by decide +kernel
theorem dX8_build_62 : decode cX8_build 62 = .ok (.iconst 0, 1) := by decide +kernel
theorem dX8_build_63 : decode cX8_build 63 = .ok (.istore 4, 2) := by decide +kernel
theorem dX8_build_65 : decode cX8_build 65 = .ok (.iload 4, 2) := by decide +kernel
theorem dX8_build_67 : decode cX8_build 67 = .ok (.bipush 40, 2) := by decide +kernel
theorem dX8_build_69 : decode cX8_build 69 = .ok (.if_icmp .ge 19, 3) := by decide +kernel
theorem dX8_build_72 : decode cX8_build 72 = .ok (.aload_n 0, 1) := by decide +kernel
theorem dX8_build_73 : decode cX8_build 73 = .ok (.iload 4, 2) := by decide +kernel
theorem dX8_build_75 : decode cX8_build 75 = .ok (.iload_n 3, 1) := by decide +kernel
theorem dX8_build_76 : decode cX8_build 76 = .ok (.invokevirtual 155, 3) := by decide +kernel
theorem dX8_build_79 : decode cX8_build 79 = .ok (.ifCond .ne 9, 3) := by decide +kernel
theorem dX8_build_82 : decode cX8_build 82 = .ok (.iinc 4 1, 3) := by decide +kernel
theorem dX8_build_85 : decode cX8_build 85 = .ok (.goto (-20), 3) := by decide +kernel
theorem dX8_build_88 : decode cX8_build 88 = .ok (.iconst 0, 1) := by decide +kernel
theorem dX8_build_89 : decode cX8_build 89 = .ok (.istore 5, 2) := by decide +kernel
theorem dX8_build_91 : decode cX8_build 91 = .ok (.iload 4, 2) := by decide +kernel
theorem dX8_build_93 : decode cX8_build 93 = .ok (.bipush 40, 2) := by decide +kernel
theorem dX8_build_95 : decode cX8_build 95 = .ok (.if_icmp .ge 26, 3) := by decide +kernel
theorem dX8_build_98 : decode cX8_build 98 = .ok (.iload 5, 2) := by decide +kernel
theorem dX8_build_100 : decode cX8_build 100 = .ok (.sipush 200, 3) := by decide +kernel
theorem dX8_build_103 : decode cX8_build 103 = .ok (.if_icmp .ge 18, 3) := by decide +kernel
theorem dX8_build_106 : decode cX8_build 106 = .ok (.aload_n 0, 1) := by decide +kernel
theorem dX8_build_107 : decode cX8_build 107 = .ok (.iload 5, 2) := by decide +kernel
theorem dX8_build_109 : decode cX8_build 109 = .ok (.invokevirtual 159, 3) := by decide +kernel
theorem dX8_build_112 : decode cX8_build 112 = .ok (.ifCond .ne 9, 3) := by decide +kernel
theorem dX8_build_115 : decode cX8_build 115 = .ok (.iinc 5 1, 3) := by decide +kernel
theorem dX8_build_118 : decode cX8_build 118 = .ok (.goto (-27), 3) := by decide +kernel
theorem dX8_build_121 : decode cX8_build 121 = .ok (.iload 4, 2) := by decide +kernel
theorem dX8_build_123 : decode cX8_build 123 = .ok (.bipush 40, 2) := by decide +kernel
theorem dX8_build_125 : decode cX8_build 125 = .ok (.if_icmp .eq 11, 3) := by decide +kernel
theorem dX8_build_128 : decode cX8_build 128 = .ok (.iload 5, 2) := by decide +kernel
theorem dX8_build_130 : decode cX8_build 130 = .ok (.sipush 200, 3) := by decide +kernel
theorem dX8_build_133 : decode cX8_build 133 = .ok (.if_icmp .ne 9, 3) := by decide +kernel
theorem dX8_build_136 : decode cX8_build 136 = .ok (.aload_n 0, 1) := by decide +kernel
theorem dX8_build_137 : decode cX8_build 137 = .ok (.iconst 2, 1) := by decide +kernel
theorem dX8_build_138 : decode cX8_build 138 = .ok (.invokevirtual 111, 3) := by decide +kernel
theorem dX8_build_141 : decode cX8_build 141 = .ok (.ireturn, 1) := by decide +kernel
theorem dX8_build_142 : decode cX8_build 142 = .ok (.aload_n 0, 1) := by decide +kernel
theorem dX8_build_143 : decode cX8_build 143 = .ok (.iconst 1, 1) := by decide +kernel
theorem dX8_build_144 : decode cX8_build 144 = .ok (.putfield 114, 3) := by decide +kernel
theorem dX8_build_147 : decode cX8_build 147 = .ok (.aload_n 0, 1) := by decide +kernel
theorem dX8_build_148 : decode cX8_build 148 = .ok (.iload 4, 2) := by decide +kernel
theorem dX8_build_150 : decode cX8_build 150 = .ok (.putfield 162, 3) := by decide +kernel
theorem dX8_build_153 : decode cX8_build 153 = .ok (.aload_n 0, 1) := by decide +kernel
theorem dX8_build_154 : decode cX8_build 154 = .ok (.iload 5, 2) := by decide +kernel
theorem dX8_build_156 : decode cX8_build 156 = .ok (.putfield 165, 3) := by decide +kernel
theorem dX8_build_159 : decode cX8_build 159 = .ok (.aload_n 0, 1) := by decide +kernel
theorem dX8_build_160 : decode cX8_build 160 = .ok (.iload_n 2, 1) := by decide +kernel
theorem dX8_build_161 : decode cX8_build 161 = .ok (.putfield 168, 3) := by decide +kernel
theorem dX8_build_164 : decode cX8_build 164 = .ok (.aload_n 0, 1) := by decide +kernel
theorem dX8_build_165 : decode cX8_build 165 = .ok (.iload_n 3, 1) := by decide +kernel
theorem dX8_build_166 : decode cX8_build 166 = .ok (.putfield 149, 3) := by decide +kernel
theorem dX8_build_169 : decode cX8_build 169 = .ok (.iconst 0, 1) := by decide +kernel
theorem dX8_build_170 : decode cX8_build 170 = .ok (.istore 6, 2) := by decide +kernel
theorem dX8_build_172 : decode cX8_build 172 = .ok (.iload 6, 2) := by decide +kernel
theorem dX8_build_174 : decode cX8_build 174 = .ok (.aload_n 0, 1) := by decide +kernel
theorem dX8_build_175 : decode cX8_build 175 = .ok (.getfield 149, 3) := by decide +kernel
theorem dX8_build_178 : decode cX8_build 178 = .ok (.if_icmp .ge 42, 3) := by decide +kernel
theorem dX8_build_181 : decode cX8_build 181 = .ok (.aload_n 0, 1) := by decide +kernel
theorem dX8_build_182 : decode cX8_build 182 = .ok (.getfield 13, 3) := by decide +kernel
theorem dX8_build_185 : decode cX8_build 185 = .ok (.iload 6, 2) := by decide +kernel
theorem dX8_build_187 : decode cX8_build 187 = .ok (.aload_n 0, 1) := by decide +kernel
theorem dX8_build_188 : decode cX8_build 188 = .ok (.iload 6, 2) := by decide +kernel
theorem dX8_build_190 : decode cX8_build 190 = .ok (.iload 4, 2) := by decide +kernel
theorem dX8_build_192 : decode cX8_build 192 = .ok (.aload_n 0, 1) := by decide +kernel
theorem dX8_build_193 : decode cX8_build 193 = .ok (.getfield 149, 3) := by decide +kernel
theorem dX8_build_196 : decode cX8_build 196 = .ok (.invokevirtual 137, 3) := by decide +kernel
theorem dX8_build_199 : decode cX8_build 199 = .ok (.iastore, 1) := by decide +kernel
theorem dX8_build_200 : decode cX8_build 200 = .ok (.aload_n 0, 1) := by decide +kernel
theorem dX8_build_201 : decode cX8_build 201 = .ok (.getfield 16, 3) := by decide +kernel
theorem dX8_build_204 : decode cX8_build 204 = .ok (.iload 6, 2) := by decide +kernel
theorem dX8_build_206 : decode cX8_build 206 = .ok (.aload_n 0, 1) := by decide +kernel
theorem dX8_build_207 : decode cX8_build 207 = .ok (.getfield 28, 3) := by decide +kernel
theorem dX8_build_210 : decode cX8_build 210 = .ok (.iload 6, 2) := by decide +kernel
theorem dX8_build_212 : decode cX8_build 212 = .ok (.iaload, 1) := by decide +kernel
theorem dX8_build_213 : decode cX8_build 213 = .ok (.iastore, 1) := by decide +kernel
theorem dX8_build_214 : decode cX8_build 214 = .ok (.iinc 6 1, 3) := by decide +kernel
theorem dX8_build_217 : decode cX8_build 217 = .ok (.goto (-45), 3) := by decide +kernel
theorem dX8_build_220 : decode cX8_build 220 = .ok (.iconst 0, 1) := by decide +kernel
theorem dX8_build_221 : decode cX8_build 221 = .ok (.istore 6, 2) := by decide +kernel
theorem dX8_build_223 : decode cX8_build 223 = .ok (.iload 6, 2) := by decide +kernel
theorem dX8_build_225 : decode cX8_build 225 = .ok (.aload_n 0, 1) := by decide +kernel
theorem dX8_build_226 : decode cX8_build 226 = .ok (.getfield 99, 3) := by decide +kernel
theorem dX8_build_229 : decode cX8_build 229 = .ok (.if_icmp .ge 41, 3) := by decide +kernel
theorem dX8_build_232 : decode cX8_build 232 = .ok (.aload_n 0, 1) := by decide +kernel
theorem dX8_build_233 : decode cX8_build 233 = .ok (.getfield 19, 3) := by decide +kernel
theorem dX8_build_236 : decode cX8_build 236 = .ok (.iload 6, 2) := by decide +kernel
theorem dX8_build_238 : decode cX8_build 238 = .ok (.aload_n 0, 1) := by decide +kernel
theorem dX8_build_239 : decode cX8_build 239 = .ok (.getfield 31, 3) := by decide +kernel
theorem dX8_build_242 : decode cX8_build 242 = .ok (.iload 6, 2) := by decide +kernel
theorem dX8_build_244 : decode cX8_build 244 = .ok (.iaload, 1) := by decide +kernel
theorem dX8_build_245 : decode cX8_build 245 = .ok (.iastore, 1) := by decide +kernel
theorem dX8_build_246 : decode cX8_build 246 = .ok (.aload_n 0, 1) := by decide +kernel
theorem dX8_build_247 : decode cX8_build 247 = .ok (.getfield 22, 3) := by decide +kernel
theorem dX8_build_250 : decode cX8_build 250 = .ok (.iload 6, 2) := by decide +kernel
theorem dX8_build_252 : decode cX8_build 252 = .ok (.aload_n 0, 1) := by decide +kernel
theorem dX8_build_253 : decode cX8_build 253 = .ok (.aload_n 0, 1) := by decide +kernel
theorem dX8_build_254 : decode cX8_build 254 = .ok (.getfield 19, 3) := by decide +kernel
theorem dX8_build_257 : decode cX8_build 257 = .ok (.iload 6, 2) := by decide +kernel
theorem dX8_build_259 : decode cX8_build 259 = .ok (.iaload, 1) := by decide +kernel
theorem dX8_build_260 : decode cX8_build 260 = .ok (.invokevirtual 171, 3) := by decide +kernel
theorem dX8_build_263 : decode cX8_build 263 = .ok (.iastore, 1) := by decide +kernel
theorem dX8_build_264 : decode cX8_build 264 = .ok (.iinc 6 1, 3) := by decide +kernel
theorem dX8_build_267 : decode cX8_build 267 = .ok (.goto (-44), 3) := by decide +kernel
theorem dX8_build_270 : decode cX8_build 270 = .ok (.aload_n 0, 1) := by decide +kernel
theorem dX8_build_271 : decode cX8_build 271 = .ok (.invokevirtual 174, 3) := by decide +kernel
theorem dX8_build_274 : decode cX8_build 274 = .ok (.aload_n 0, 1) := by decide +kernel
theorem dX8_build_275 : decode cX8_build 275 = .ok (.invokevirtual 177, 3) := by decide +kernel
theorem dX8_build_278 : decode cX8_build 278 = .ok (.aload_n 0, 1) := by decide +kernel
theorem dX8_build_279 : decode cX8_build 279 = .ok (.getfield 162, 3) := by decide +kernel
theorem dX8_build_282 : decode cX8_build 282 = .ok (.ireturn, 1) := by decide +kernel
set_option maxRecDepth 20000 in
theorem ggX8_print_X8_hash : GoodIn wsX8_print wsX8_hash := goodIn_r _ [6, 7, 8, 9, 5, 10, 11, 12, 13, 14, 15, 16, 17, 18, 19, 20, 21, 22, 23, 24, 25, 26, 27, 28, 29, 30, 31, 32, 33, 34] (by decide +kernel) (by decide +kernel)
set_option maxRecDepth 20000 in
theorem gX8_print_X8_hash : GoodIn wsX8_print (va_wsS RX8 126 yX8_hash wsX8_hash) := goodIn_app (goodIn_of _ (by decide +kernel)) ggX8_print_X8_hash
theorem dX8_print_0 : decode cX8_print 0 = .ok (.iconst 3, 1) := by decide +kernel
theorem dX8_print_1 : decode cX8_print 1 = .ok (.iload_n 1, 1) := by decide +kernel
theorem dX8_print_2 : decode cX8_print 2 = .ok (.aload_n 0, 1) := by decide +kernel
theorem dX8_print_3 : decode cX8_print 3 = .ok (.getfield 162, 3) := by decide +kernel
theorem dX8_print_6 : decode cX8_print 6 = .ok (.invokestatic 126, 3) := by decide +kernel
theorem dX8_print_9 : decode cX8_print 9 = .ok (.iconst 1, 1) := by decide +kernel
theorem dX8_print_10 : decode cX8_print 10 = .ok (.aload_n 0, 1) := by decide +kernel
theorem dX8_print_11 : decode cX8_print 11 = .ok (.getfield 168, 3) := by decide +kernel
theorem dX8_print_14 : decode cX8_print 14 = .ok (.ishl, 1) := by decide +kernel
theorem dX8_print_15 : decode cX8_print 15 = .ok (.irem, 1) := by decide +kernel
theorem dX8_print_16 : decode cX8_print 16 = .ok (.ireturn, 1) := by decide +kernel
set_option maxRecDepth 20000 in
theorem ggX8_reopen_X8_fails : GoodIn wsX8_reopen wsX8_fails := goodIn_r _ [7, 1, 8, 9, 10, 11, 12, 13, 14, 15, 16, 17, 18, 19, 20, 21, 22, 23, 24, 25, 26, 27] (by decide +kernel) (by decide +kernel)
set_option maxRecDepth 20000 in
theorem gX8_reopen_X8_fails : GoodIn wsX8_reopen (wsV RX8 111 RX8 yX8_fails wsX8_fails) := goodIn_app (goodIn_of _ (by decide +kernel)) ggX8_reopen_X8_fails
theorem dX8_reopen_0 : decode cX8_reopen 0 = .ok (.aload_n 0, 1) := by decide +kernel
theorem dX8_reopen_1 : decode cX8_reopen 1 = .ok (.iconst 0, 1) := by decide +kernel
theorem dX8_reopen_2 : decode cX8_reopen 2 = .ok (.putfield 47, 3) := by decide +kernel
theorem dX8_reopen_5 : decode cX8_reopen 5 = .ok (.aload_n 0, 1) := by decide +kernel
theorem dX8_reopen_6 : decode cX8_reopen 6 = .ok (.getfield 114, 3) := by decide +kernel
theorem dX8_reopen_9 : decode cX8_reopen 9 = .ok (.ifCond .ne 10, 3) := by decide +kernel
theorem dX8_reopen_12 : decode cX8_reopen 12 = .ok (.aload_n 0, 1) := by decide +kernel
theorem dX8_reopen_13 : decode cX8_reopen 13 = .ok (.iconst 1, 1) := by decide +kernel
theorem dX8_reopen_14 : decode cX8_reopen 14 = .ok (.invokevirtual 111, 3) := by decide +kernel
theorem dX8_reopen_17 : decode cX8_reopen 17 = .ok (.pop, 1) := by decide +kernel
theorem dX8_reopen_18 : decode cX8_reopen 18 = .ok (.return_, 1) := by decide +kernel
theorem dX8_reopen_19 : decode cX8_reopen 19 = .ok (.aload_n 0, 1) := by decide +kernel
theorem dX8_reopen_20 : decode cX8_reopen 20 = .ok (.iconst 0, 1) := by decide +kernel
theorem dX8_reopen_21 : decode cX8_reopen 21 = .ok (.putfield 114, 3) := by decide +kernel
theorem dX8_reopen_24 : decode cX8_reopen 24 = .ok (.return_, 1) := by decide +kernel
theorem dX8_isBuilt_0 : decode cX8_isBuilt 0 = .ok (.aload_n 0, 1) := by decide +kernel
theorem dX8_isBuilt_1 : decode cX8_isBuilt 1 = .ok (.iconst 0, 1) := by decide +kernel
theorem dX8_isBuilt_2 : decode cX8_isBuilt 2 = .ok (.putfield 47, 3) := by decide +kernel
theorem dX8_isBuilt_5 : decode cX8_isBuilt 5 = .ok (.aload_n 0, 1) := by decide +kernel
theorem dX8_isBuilt_6 : decode cX8_isBuilt 6 = .ok (.getfield 114, 3) := by decide +kernel
theorem dX8_isBuilt_9 : decode cX8_isBuilt 9 = .ok (.ireturn, 1) := by decide +kernel
set_option maxRecDepth 20000 in
theorem ggX8_numberOf_X8_hash : GoodIn wsX8_numberOf wsX8_hash := goodIn_r _ [8, 9, 10, 11, 7, 12, 13, 14, 15, 16, 17, 18, 19, 20, 21, 22, 23, 24, 25, 26, 27, 28, 29, 30, 31, 32, 33, 34, 35, 36] (by decide +kernel) (by decide +kernel)
set_option maxRecDepth 20000 in
theorem gX8_numberOf_X8_hash : GoodIn wsX8_numberOf (va_wsS RX8 126 yX8_hash wsX8_hash) := goodIn_app (goodIn_of _ (by decide +kernel)) ggX8_numberOf_X8_hash
set_option maxRecDepth 20000 in
theorem ggX8_numberOf_X8_place : GoodIn wsX8_numberOf wsX8_place := goodIn_r _ [39, 5, 6, 7, 8, 9, 10, 11, 12, 13, 14, 15, 16, 17, 18, 19, 20, 21, 22, 23, 24, 25, 26, 27, 28, 29, 30, 31, 32, 33, 34, 35, 36, 40, 41, 42] (by decide +kernel) (by decide +kernel)
set_option maxRecDepth 20000 in
theorem gX8_numberOf_X8_place : GoodIn wsX8_numberOf (va_wsS RX8 133 yX8_place wsX8_place) := goodIn_app (goodIn_of _ (by decide +kernel)) ggX8_numberOf_X8_place
theorem dX8_numberOf_0 : decode cX8_numberOf 0 = .ok (.iload_n 1, 1) := by decide +kernel
theorem dX8_numberOf_1 : decode cX8_numberOf 1 = .ok (.aload_n 0, 1) := by decide +kernel
theorem dX8_numberOf_2 : decode cX8_numberOf 2 = .ok (.getfield 162, 3) := by decide +kernel
theorem dX8_numberOf_5 : decode cX8_numberOf 5 = .ok (.aload_n 0, 1) := by decide +kernel
theorem dX8_numberOf_6 : decode cX8_numberOf 6 = .ok (.getfield 16, 3) := by decide +kernel
theorem dX8_numberOf_9 : decode cX8_numberOf 9 = .ok (.iconst 0, 1) := by decide +kernel
theorem dX8_numberOf_10 : decode cX8_numberOf 10 = .ok (.iload_n 1, 1) := by decide +kernel
theorem dX8_numberOf_11 : decode cX8_numberOf 11 = .ok (.aload_n 0, 1) := by decide +kernel
theorem dX8_numberOf_12 : decode cX8_numberOf 12 = .ok (.getfield 162, 3) := by decide +kernel
theorem dX8_numberOf_15 : decode cX8_numberOf 15 = .ok (.invokestatic 126, 3) := by decide +kernel
theorem dX8_numberOf_18 : decode cX8_numberOf 18 = .ok (.aload_n 0, 1) := by decide +kernel
theorem dX8_numberOf_19 : decode cX8_numberOf 19 = .ok (.getfield 149, 3) := by decide +kernel
theorem dX8_numberOf_22 : decode cX8_numberOf 22 = .ok (.irem, 1) := by decide +kernel
end
section
theorem dX8_numberOf_23 : decode cX8_numberOf 23 = .ok (.iaload, 1) := by decide +kernel
theorem dX8_numberOf_24 : decode cX8_numberOf 24 = .ok (.aload_n 0, 1) := by decide +kernel
theorem dX8_numberOf_25 : decode cX8_numberOf 25 = .ok (.getfield 99, 3) := by decide +kernel
theorem dX8_numberOf_28 : decode cX8_numberOf 28 = .ok (.invokestatic 133, 3) := by decide +kernel
theorem dX8_numberOf_31 : decode cX8_numberOf 31 = .ok (.ireturn, 1) := by decide +kernel
set_option maxRecDepth 20000 in
theorem ggX8_found_X8_numberOf : GoodIn wsX8_found wsX8_numberOf := goodIn_r _ [6, 7, 8, 9, 10, 11, 12, 5, 13, 14, 15, 16, 17, 18, 19, 20, 21, 22, 23, 24, 25, 26, 27, 28, 29, 30, 31, 32, 33, 34, 35, 36, 37, 38, 39, 40, 41, 42, 43, 44, 45, 46, 47, 53, 54, 55, 56, 57, 58, 59, 60, 61, 62, 63, 64, 65, 66, 67, 68, 69, 70, 71, 72] (by decide +kernel) (by decide +kernel)
set_option maxRecDepth 20000 in
theorem gX8_found_X8_numberOf : GoodIn wsX8_found (wsV RX8 180 RX8 yX8_numberOf wsX8_numberOf) := goodIn_app (goodIn_of _ (by decide +kernel)) ggX8_found_X8_numberOf
set_option maxRecDepth 20000 in
theorem ggX8_found_X8_print : GoodIn wsX8_found wsX8_print := goodIn_r _ [51, 7, 52, 11, 12, 5, 13, 14, 15, 16, 17, 18, 19, 20, 21, 22, 23, 24, 25, 26, 27, 28, 29, 30, 31, 32, 33, 34, 35, 36, 37, 38, 39, 40, 41, 53, 54, 55, 56, 57, 58, 59, 60, 61, 62, 63, 64, 65, 66, 67, 68, 69, 70, 71, 72] (by decide +kernel) (by decide +kernel)
set_option maxRecDepth 20000 in
theorem gX8_found_X8_print : GoodIn wsX8_found (wsV RX8 171 RX8 yX8_print wsX8_print) := goodIn_app (goodIn_of _ (by decide +kernel)) ggX8_found_X8_print
theorem dX8_found_0 : decode cX8_found 0 = .ok (.aload_n 0, 1) := by decide +kernel
theorem dX8_found_1 : decode cX8_found 1 = .ok (.iload_n 1, 1) := by decide +kernel
theorem dX8_found_2 : decode cX8_found 2 = .ok (.invokevirtual 180, 3) := by decide +kernel
theorem dX8_found_5 : decode cX8_found 5 = .ok (.istore_n 2, 1) := by decide +kernel
theorem dX8_found_6 : decode cX8_found 6 = .ok (.aload_n 0, 1) := by decide +kernel
theorem dX8_found_7 : decode cX8_found 7 = .ok (.getfield 22, 3) := by decide +kernel
theorem dX8_found_10 : decode cX8_found 10 = .ok (.iload_n 2, 1) := by decide +kernel
theorem dX8_found_11 : decode cX8_found 11 = .ok (.iaload, 1) := by decide +kernel
theorem dX8_found_12 : decode cX8_found 12 = .ok (.aload_n 0, 1) := by decide +kernel
theorem dX8_found_13 : decode cX8_found 13 = .ok (.iload_n 1, 1) := by decide +kernel
theorem dX8_found_14 : decode cX8_found 14 = .ok (.invokevirtual 171, 3) := by decide +kernel
theorem dX8_found_17 : decode cX8_found 17 = .ok (.if_icmp .ne 7, 3) := by decide +kernel
theorem dX8_found_20 : decode cX8_found 20 = .ok (.iload_n 2, 1) := by decide +kernel
theorem dX8_found_21 : decode cX8_found 21 = .ok (.goto 4, 3) := by decide +kernel
theorem dX8_found_24 : decode cX8_found 24 = .ok (.iconst (-1), 1) := by decide +kernel
theorem dX8_found_25 : decode cX8_found 25 = .ok (.ireturn, 1) := by decide +kernel
set_option maxRecDepth 20000 in
theorem ggX8_number_X8_in : GoodIn wsX8_number wsX8_in := goodIn_r _ [7] (by decide +kernel) (by decide +kernel)
set_option maxRecDepth 20000 in
theorem gX8_number_X8_in : GoodIn wsX8_number (va_wsS RX8 107 yX8_in wsX8_in) := goodIn_app (goodIn_of _ (by decide +kernel)) ggX8_number_X8_in
set_option maxRecDepth 20000 in
theorem ggX8_number_X8_fails : GoodIn wsX8_number wsX8_fails := goodIn_r _ [11, 1, 57, 58, 59, 60, 61, 62, 63, 64, 65, 66, 67, 68, 69, 70, 71, 72, 73, 74, 75, 76] (by decide +kernel) (by decide +kernel)
set_option maxRecDepth 20000 in
theorem gX8_number_X8_fails : GoodIn wsX8_number (wsV RX8 111 RX8 yX8_fails wsX8_fails) := goodIn_app (goodIn_of _ (by decide +kernel)) ggX8_number_X8_fails
set_option maxRecDepth 20000 in
theorem ggX8_number_X8_numberOf : GoodIn wsX8_number wsX8_numberOf := goodIn_r _ [15, 16, 17, 18, 19, 20, 21, 6, 22, 23, 24, 25, 26, 27, 28, 29, 30, 31, 32, 33, 34, 35, 36, 37, 38, 39, 40, 41, 42, 43, 44, 45, 46, 47, 48, 49, 50, 51, 52, 53, 54, 55, 56, 57, 58, 59, 60, 61, 62, 63, 64, 65, 66, 67, 68, 69, 70, 71, 72, 73, 74, 75, 76] (by decide +kernel) (by decide +kernel)
set_option maxRecDepth 20000 in
theorem gX8_number_X8_numberOf : GoodIn wsX8_number (wsV RX8 180 RX8 yX8_numberOf wsX8_numberOf) := goodIn_app (goodIn_of _ (by decide +kernel)) ggX8_number_X8_numberOf
theorem dX8_number_0 : decode cX8_number 0 = .ok (.aload_n 0, 1) := by decide +kernel
theorem dX8_number_1 : decode cX8_number 1 = .ok (.iconst 0, 1) := by decide +kernel
theorem dX8_number_2 : decode cX8_number 2 = .ok (.putfield 47, 3) := by decide +kernel
theorem dX8_number_5 : decode cX8_number 5 = .ok (.iload_n 1, 1) := by decide +kernel
theorem dX8_number_6 : decode cX8_number 6 = .ok (.iconst 0, 1) := by decide +kernel
theorem dX8_number_7 : decode cX8_number 7 = .ok (.ldc 106, 2) := by decide +kernel
theorem dX8_number_9 : decode cX8_number 9 = .ok (.invokestatic 107, 3) := by decide +kernel
theorem dX8_number_12 : decode cX8_number 12 = .ok (.ifCond .ne 9, 3) := by decide +kernel
theorem dX8_number_15 : decode cX8_number 15 = .ok (.aload_n 0, 1) := by decide +kernel
theorem dX8_number_16 : decode cX8_number 16 = .ok (.iconst 1, 1) := by decide +kernel
theorem dX8_number_17 : decode cX8_number 17 = .ok (.invokevirtual 111, 3) := by decide +kernel
theorem dX8_number_20 : decode cX8_number 20 = .ok (.ireturn, 1) := by decide +kernel
theorem dX8_number_21 : decode cX8_number 21 = .ok (.aload_n 0, 1) := by decide +kernel
theorem dX8_number_22 : decode cX8_number 22 = .ok (.getfield 114, 3) := by decide +kernel
theorem dX8_number_25 : decode cX8_number 25 = .ok (.ifCond .eq 11, 3) := by decide +kernel
theorem dX8_number_28 : decode cX8_number 28 = .ok (.aload_n 0, 1) := by decide +kernel
theorem dX8_number_29 : decode cX8_number 29 = .ok (.iload_n 1, 1) := by decide +kernel
theorem dX8_number_30 : decode cX8_number 30 = .ok (.invokevirtual 180, 3) := by decide +kernel
theorem dX8_number_33 : decode cX8_number 33 = .ok (.goto 8, 3) := by decide +kernel
theorem dX8_number_36 : decode cX8_number 36 = .ok (.aload_n 0, 1) := by decide +kernel
theorem dX8_number_37 : decode cX8_number 37 = .ok (.iconst 2, 1) := by decide +kernel
theorem dX8_number_38 : decode cX8_number 38 = .ok (.invokevirtual 111, 3) := by decide +kernel
theorem dX8_number_41 : decode cX8_number 41 = .ok (.ireturn, 1) := by decide +kernel
set_option maxRecDepth 20000 in
theorem ggX8_find_X8_in : GoodIn wsX8_find wsX8_in := goodIn_r _ [7] (by decide +kernel) (by decide +kernel)
set_option maxRecDepth 20000 in
theorem gX8_find_X8_in : GoodIn wsX8_find (va_wsS RX8 107 yX8_in wsX8_in) := goodIn_app (goodIn_of _ (by decide +kernel)) ggX8_find_X8_in
set_option maxRecDepth 20000 in
theorem ggX8_find_X8_fails : GoodIn wsX8_find wsX8_fails := goodIn_r _ [11, 1, 67, 68, 69, 70, 71, 72, 73, 74, 75, 76, 77, 78, 79, 80, 81, 82, 83, 84, 85, 86] (by decide +kernel) (by decide +kernel)
set_option maxRecDepth 20000 in
theorem gX8_find_X8_fails : GoodIn wsX8_find (wsV RX8 111 RX8 yX8_fails wsX8_fails) := goodIn_app (goodIn_of _ (by decide +kernel)) ggX8_find_X8_fails
set_option maxRecDepth 20000 in
theorem ggX8_find_X8_found : GoodIn wsX8_find wsX8_found := goodIn_r _ [15, 16, 17, 18, 19, 6, 20, 21, 22, 23, 24, 25, 26, 27, 28, 29, 30, 31, 32, 33, 34, 35, 36, 37, 38, 39, 40, 41, 42, 43, 44, 45, 46, 47, 48, 49, 50, 51, 52, 53, 54, 55, 56, 57, 58, 59, 60, 61, 62, 63, 64, 65, 66, 67, 68, 69, 70, 71, 72, 73, 74, 75, 76, 77, 78, 79, 80, 81, 82, 83, 84, 85, 86] (by decide +kernel) (by decide +kernel)
set_option maxRecDepth 20000 in
theorem gX8_find_X8_found : GoodIn wsX8_find (wsV RX8 183 RX8 yX8_found wsX8_found) := goodIn_app (goodIn_of _ (by decide +kernel)) ggX8_find_X8_found
theorem dX8_find_0 : decode cX8_find 0 = .ok (.aload_n 0, 1) := by decide +kernel
theorem dX8_find_1 : decode cX8_find 1 = .ok (.iconst 0, 1) := by decide +kernel
theorem dX8_find_2 : decode cX8_find 2 = .ok (.putfield 47, 3) := by decide +kernel
theorem dX8_find_5 : decode cX8_find 5 = .ok (.iload_n 1, 1) := by decide +kernel
theorem dX8_find_6 : decode cX8_find 6 = .ok (.iconst 0, 1) := by decide +kernel
theorem dX8_find_7 : decode cX8_find 7 = .ok (.ldc 106, 2) := by decide +kernel
theorem dX8_find_9 : decode cX8_find 9 = .ok (.invokestatic 107, 3) := by decide +kernel
theorem dX8_find_12 : decode cX8_find 12 = .ok (.ifCond .ne 9, 3) := by decide +kernel
theorem dX8_find_15 : decode cX8_find 15 = .ok (.aload_n 0, 1) := by decide +kernel
theorem dX8_find_16 : decode cX8_find 16 = .ok (.iconst 1, 1) := by decide +kernel
theorem dX8_find_17 : decode cX8_find 17 = .ok (.invokevirtual 111, 3) := by decide +kernel
theorem dX8_find_20 : decode cX8_find 20 = .ok (.ireturn, 1) := by decide +kernel
theorem dX8_find_21 : decode cX8_find 21 = .ok (.aload_n 0, 1) := by decide +kernel
theorem dX8_find_22 : decode cX8_find 22 = .ok (.getfield 114, 3) := by decide +kernel
theorem dX8_find_25 : decode cX8_find 25 = .ok (.ifCond .eq 11, 3) := by decide +kernel
theorem dX8_find_28 : decode cX8_find 28 = .ok (.aload_n 0, 1) := by decide +kernel
theorem dX8_find_29 : decode cX8_find 29 = .ok (.iload_n 1, 1) := by decide +kernel
theorem dX8_find_30 : decode cX8_find 30 = .ok (.invokevirtual 183, 3) := by decide +kernel
theorem dX8_find_33 : decode cX8_find 33 = .ok (.goto 8, 3) := by decide +kernel
theorem dX8_find_36 : decode cX8_find 36 = .ok (.aload_n 0, 1) := by decide +kernel
theorem dX8_find_37 : decode cX8_find 37 = .ok (.iconst 2, 1) := by decide +kernel
theorem dX8_find_38 : decode cX8_find 38 = .ok (.invokevirtual 111, 3) := by decide +kernel
theorem dX8_find_41 : decode cX8_find 41 = .ok (.ireturn, 1) := by decide +kernel
set_option maxRecDepth 20000 in
theorem ggX8_strangers_X8_in : GoodIn wsX8_strangers wsX8_in := goodIn_r _ [7] (by decide +kernel) (by decide +kernel)
set_option maxRecDepth 20000 in
theorem gX8_strangers_X8_in : GoodIn wsX8_strangers (va_wsS RX8 107 yX8_in wsX8_in) := goodIn_app (goodIn_of _ (by decide +kernel)) ggX8_strangers_X8_in
set_option maxRecDepth 20000 in
theorem ggX8_strangers_X8_fails : GoodIn wsX8_strangers wsX8_fails := goodIn_r _ [11, 1, 76, 77, 78, 79, 80, 81, 82, 83, 84, 85, 86, 87, 88, 89, 90, 91, 92, 93, 94, 95] (by decide +kernel) (by decide +kernel)
set_option maxRecDepth 20000 in
theorem gX8_strangers_X8_fails : GoodIn wsX8_strangers (wsV RX8 111 RX8 yX8_fails wsX8_fails) := goodIn_app (goodIn_of _ (by decide +kernel)) ggX8_strangers_X8_fails
set_option maxRecDepth 20000 in
theorem ggX8_strangers_X8_found : GoodIn wsX8_strangers wsX8_found := goodIn_r _ [15, 16, 17, 18, 19, 6, 20, 21, 22, 23, 24, 25, 26, 27, 28, 29, 30, 31, 32, 33, 34, 35, 36, 37, 38, 39, 40, 41, 42, 43, 44, 45, 46, 47, 48, 49, 50, 51, 52, 53, 54, 55, 56, 57, 58, 59, 60, 61, 62, 63, 64, 65, 66, 76, 77, 78, 79, 80, 81, 82, 83, 84, 85, 86, 87, 88, 89, 90, 91, 92, 93, 94, 95] (by decide +kernel) (by decide +kernel)
set_option maxRecDepth 20000 in
theorem gX8_strangers_X8_found : GoodIn wsX8_strangers (wsV RX8 183 RX8 yX8_found wsX8_found) := goodIn_app (goodIn_of _ (by decide +kernel)) ggX8_strangers_X8_found
set_option maxRecDepth 20000 in
theorem ggX8_strangers_X8_is : GoodIn wsX8_strangers wsX8_is := goodIn_r _ [70, 24, 71, 72, 73, 74, 6, 75, 76, 77, 78, 79, 80, 81, 82, 83, 84, 85, 86, 87, 88, 89, 90, 91, 92, 93, 94, 95] (by decide +kernel) (by decide +kernel)
set_option maxRecDepth 20000 in
theorem gX8_strangers_X8_is : GoodIn wsX8_strangers (wsV RX8 118 RX8 yX8_is wsX8_is) := goodIn_app (goodIn_of _ (by decide +kernel)) ggX8_strangers_X8_is
theorem dX8_strangers_0 : decode cX8_strangers 0 = .ok (.aload_n 0, 1) := by decide +kernel
theorem dX8_strangers_1 : decode cX8_strangers 1 = .ok (.iconst 0, 1) := by decide +kernel
theorem dX8_strangers_2 : decode cX8_strangers 2 = .ok (.putfield 47, 3) := by decide +kernel
theorem dX8_strangers_5 : decode cX8_strangers 5 = .ok (.iload_n 1, 1) := by decide +kernel
theorem dX8_strangers_6 : decode cX8_strangers 6 = .ok (.iconst 0, 1) := by decide +kernel
theorem dX8_strangers_7 : decode cX8_strangers 7 = .ok (.ldc 106, 2) := by decide +kernel
theorem dX8_strangers_9 : decode cX8_strangers 9 = .ok (.invokestatic 107, 3) := by decide +kernel
theorem dX8_strangers_12 : decode cX8_strangers 12 = .ok (.ifCond .eq 22, 3) := by decide +kernel
theorem dX8_strangers_15 : decode cX8_strangers 15 = .ok (.iload_n 2, 1) := by decide +kernel
theorem dX8_strangers_16 : decode cX8_strangers 16 = .ok (.iload_n 1, 1) := by decide +kernel
theorem dX8_strangers_17 : decode cX8_strangers 17 = .ok (.ldc 106, 2) := by decide +kernel
theorem dX8_strangers_19 : decode cX8_strangers 19 = .ok (.invokestatic 107, 3) := by decide +kernel
theorem dX8_strangers_22 : decode cX8_strangers 22 = .ok (.ifCond .eq 12, 3) := by decide +kernel
theorem dX8_strangers_25 : decode cX8_strangers 25 = .ok (.iload_n 2, 1) := by decide +kernel
theorem dX8_strangers_26 : decode cX8_strangers 26 = .ok (.iload_n 1, 1) := by decide +kernel
theorem dX8_strangers_27 : decode cX8_strangers 27 = .ok (.isub, 1) := by decide +kernel
theorem dX8_strangers_28 : decode cX8_strangers 28 = .ok (.sipush 4999, 3) := by decide +kernel
theorem dX8_strangers_31 : decode cX8_strangers 31 = .ok (.if_icmp .le 9, 3) := by decide +kernel
theorem dX8_strangers_34 : decode cX8_strangers 34 = .ok (.aload_n 0, 1) := by decide +kernel
theorem dX8_strangers_35 : decode cX8_strangers 35 = .ok (.iconst 1, 1) := by decide +kernel
theorem dX8_strangers_36 : decode cX8_strangers 36 = .ok (.invokevirtual 111, 3) := by decide +kernel
theorem dX8_strangers_39 : decode cX8_strangers 39 = .ok (.ireturn, 1) := by decide +kernel
theorem dX8_strangers_40 : decode cX8_strangers 40 = .ok (.aload_n 0, 1) := by decide +kernel
theorem dX8_strangers_41 : decode cX8_strangers 41 = .ok (.getfield 114, 3) := by decide +kernel
theorem dX8_strangers_44 : decode cX8_strangers 44 = .ok (.ifCond .ne 9, 3) := by decide +kernel
theorem dX8_strangers_47 : decode cX8_strangers 47 = .ok (.aload_n 0, 1) := by decide +kernel
theorem dX8_strangers_48 : decode cX8_strangers 48 = .ok (.iconst 2, 1) := by decide +kernel
theorem dX8_strangers_49 : decode cX8_strangers 49 = .ok (.invokevirtual 111, 3) := by decide +kernel
theorem dX8_strangers_52 : decode cX8_strangers 52 = .ok (.ireturn, 1) := by decide +kernel
theorem dX8_strangers_53 : decode cX8_strangers 53 = .ok (.iconst 0, 1) := by decide +kernel
theorem dX8_strangers_54 : decode cX8_strangers 54 = .ok (.istore_n 3, 1) := by decide +kernel
theorem dX8_strangers_55 : decode cX8_strangers 55 = .ok (.iload_n 1, 1) := by decide +kernel
theorem dX8_strangers_56 : decode cX8_strangers 56 = .ok (.istore 4, 2) := by decide +kernel
theorem dX8_strangers_58 : decode cX8_strangers 58 = .ok (.iload 4, 2) := by decide +kernel
theorem dX8_strangers_60 : decode cX8_strangers 60 = .ok (.iload_n 2, 1) := by decide +kernel
theorem dX8_strangers_61 : decode cX8_strangers 61 = .ok (.if_icmp .gt 36, 3) := by decide +kernel
theorem dX8_strangers_64 : decode cX8_strangers 64 = .ok (.iload_n 3, 1) := by decide +kernel
theorem dX8_strangers_65 : decode cX8_strangers 65 = .ok (.aload_n 0, 1) := by decide +kernel
theorem dX8_strangers_66 : decode cX8_strangers 66 = .ok (.iload 4, 2) := by decide +kernel
theorem dX8_strangers_68 : decode cX8_strangers 68 = .ok (.invokevirtual 183, 3) := by decide +kernel
theorem dX8_strangers_71 : decode cX8_strangers 71 = .ok (.iconst (-1), 1) := by decide +kernel
theorem dX8_strangers_72 : decode cX8_strangers 72 = .ok (.if_icmp .eq 16, 3) := by decide +kernel
theorem dX8_strangers_75 : decode cX8_strangers 75 = .ok (.aload_n 0, 1) := by decide +kernel
theorem dX8_strangers_76 : decode cX8_strangers 76 = .ok (.iload 4, 2) := by decide +kernel
theorem dX8_strangers_78 : decode cX8_strangers 78 = .ok (.invokevirtual 118, 3) := by decide +kernel
theorem dX8_strangers_81 : decode cX8_strangers 81 = .ok (.ifCond .ne 7, 3) := by decide +kernel
theorem dX8_strangers_84 : decode cX8_strangers 84 = .ok (.iconst 1, 1) := by decide +kernel
theorem dX8_strangers_85 : decode cX8_strangers 85 = .ok (.goto 4, 3) := by decide +kernel
theorem dX8_strangers_88 : decode cX8_strangers 88 = .ok (.iconst 0, 1) := by decide +kernel
theorem dX8_strangers_89 : decode cX8_strangers 89 = .ok (.iadd, 1) := by decide +kernel
theorem dX8_strangers_90 : decode cX8_strangers 90 = .ok (.istore_n 3, 1) := by decide +kernel
theorem dX8_strangers_91 : decode cX8_strangers 91 = .ok (.iinc 4 1, 3) := by decide +kernel
theorem dX8_strangers_94 : decode cX8_strangers 94 = .ok (.goto (-36), 3) := by decide +kernel
theorem dX8_strangers_97 : decode cX8_strangers 97 = .ok (.iload_n 3, 1) := by decide +kernel
theorem dX8_strangers_98 : decode cX8_strangers 98 = .ok (.ireturn, 1) := by decide +kernel
set_option maxRecDepth 20000 in
theorem ggX8_told_X8_fails : GoodIn wsX8_told wsX8_fails := goodIn_r _ [6, 7, 8, 9, 10, 11, 12, 13, 14, 15, 16, 17, 18, 19, 20, 21, 22, 23, 24, 25, 26, 27] (by decide +kernel) (by decide +kernel)
set_option maxRecDepth 20000 in
theorem gX8_told_X8_fails : GoodIn wsX8_told (wsV RX8 111 RX8 yX8_fails wsX8_fails) := goodIn_app (goodIn_of _ (by decide +kernel)) ggX8_told_X8_fails
theorem dX8_told_0 : decode cX8_told 0 = .ok (.aload_n 0, 1) := by decide +kernel
theorem dX8_told_1 : decode cX8_told 1 = .ok (.getfield 114, 3) := by decide +kernel
theorem dX8_told_4 : decode cX8_told 4 = .ok (.ifCond .ne 9, 3) := by decide +kernel
theorem dX8_told_7 : decode cX8_told 7 = .ok (.aload_n 0, 1) := by decide +kernel
theorem dX8_told_8 : decode cX8_told 8 = .ok (.iconst 1, 1) := by decide +kernel
theorem dX8_told_9 : decode cX8_told 9 = .ok (.invokevirtual 111, 3) := by decide +kernel
theorem dX8_told_12 : decode cX8_told 12 = .ok (.ireturn, 1) := by decide +kernel
theorem dX8_told_13 : decode cX8_told 13 = .ok (.iload_n 1, 1) := by decide +kernel
theorem dX8_told_14 : decode cX8_told 14 = .ok (.ifCond .eq 7, 3) := by decide +kernel
theorem dX8_told_17 : decode cX8_told 17 = .ok (.iload_n 2, 1) := by decide +kernel
theorem dX8_told_18 : decode cX8_told 18 = .ok (.goto 8, 3) := by decide +kernel
theorem dX8_told_21 : decode cX8_told 21 = .ok (.aload_n 0, 1) := by decide +kernel
theorem dX8_told_22 : decode cX8_told 22 = .ok (.iconst 2, 1) := by decide +kernel
theorem dX8_told_23 : decode cX8_told 23 = .ok (.invokevirtual 111, 3) := by decide +kernel
theorem dX8_told_26 : decode cX8_told 26 = .ok (.ireturn, 1) := by decide +kernel
set_option maxRecDepth 20000 in
theorem ggX8_keyOf_X8_in : GoodIn wsX8_keyOf wsX8_in := goodIn_r _ [7] (by decide +kernel) (by decide +kernel)
set_option maxRecDepth 20000 in
theorem gX8_keyOf_X8_in : GoodIn wsX8_keyOf (va_wsS RX8 107 yX8_in wsX8_in) := goodIn_app (goodIn_of _ (by decide +kernel)) ggX8_keyOf_X8_in
set_option maxRecDepth 20000 in
theorem ggX8_keyOf_X8_told : GoodIn wsX8_keyOf wsX8_told := goodIn_r _ [11, 12, 13, 14, 15, 6, 16, 1, 17, 18, 19, 20, 21, 22, 23, 24, 25, 26, 27, 28, 29, 30, 31, 32, 33, 34, 35, 36] (by decide +kernel) (by decide +kernel)
set_option maxRecDepth 20000 in
theorem gX8_keyOf_X8_told : GoodIn wsX8_keyOf (wsV RX8 186 RX8 yX8_told wsX8_told) := goodIn_app (goodIn_of _ (by decide +kernel)) ggX8_keyOf_X8_told
theorem dX8_keyOf_0 : decode cX8_keyOf 0 = .ok (.aload_n 0, 1) := by decide +kernel
theorem dX8_keyOf_1 : decode cX8_keyOf 1 = .ok (.iconst 0, 1) := by decide +kernel
theorem dX8_keyOf_2 : decode cX8_keyOf 2 = .ok (.putfield 47, 3) := by decide +kernel
theorem dX8_keyOf_5 : decode cX8_keyOf 5 = .ok (.iload_n 1, 1) := by decide +kernel
theorem dX8_keyOf_6 : decode cX8_keyOf 6 = .ok (.iconst 0, 1) := by decide +kernel
theorem dX8_keyOf_7 : decode cX8_keyOf 7 = .ok (.aload_n 0, 1) := by decide +kernel
theorem dX8_keyOf_8 : decode cX8_keyOf 8 = .ok (.getfield 99, 3) := by decide +kernel
theorem dX8_keyOf_11 : decode cX8_keyOf 11 = .ok (.iconst 1, 1) := by decide +kernel
theorem dX8_keyOf_12 : decode cX8_keyOf 12 = .ok (.isub, 1) := by decide +kernel
theorem dX8_keyOf_13 : decode cX8_keyOf 13 = .ok (.invokestatic 107, 3) := by decide +kernel
theorem dX8_keyOf_16 : decode cX8_keyOf 16 = .ok (.istore_n 2, 1) := by decide +kernel
theorem dX8_keyOf_17 : decode cX8_keyOf 17 = .ok (.aload_n 0, 1) := by decide +kernel
theorem dX8_keyOf_18 : decode cX8_keyOf 18 = .ok (.iload_n 2, 1) := by decide +kernel
theorem dX8_keyOf_19 : decode cX8_keyOf 19 = .ok (.iload_n 2, 1) := by decide +kernel
theorem dX8_keyOf_20 : decode cX8_keyOf 20 = .ok (.ifCond .eq 12, 3) := by decide +kernel
theorem dX8_keyOf_23 : decode cX8_keyOf 23 = .ok (.aload_n 0, 1) := by decide +kernel
theorem dX8_keyOf_24 : decode cX8_keyOf 24 = .ok (.getfield 19, 3) := by decide +kernel
theorem dX8_keyOf_27 : decode cX8_keyOf 27 = .ok (.iload_n 1, 1) := by decide +kernel
theorem dX8_keyOf_28 : decode cX8_keyOf 28 = .ok (.iaload, 1) := by decide +kernel
theorem dX8_keyOf_29 : decode cX8_keyOf 29 = .ok (.goto 4, 3) := by decide +kernel
theorem dX8_keyOf_32 : decode cX8_keyOf 32 = .ok (.iconst 0, 1) := by decide +kernel
theorem dX8_keyOf_33 : decode cX8_keyOf 33 = .ok (.invokevirtual 186, 3) := by decide +kernel
theorem dX8_keyOf_36 : decode cX8_keyOf 36 = .ok (.ireturn, 1) := by decide +kernel
set_option maxRecDepth 20000 in
theorem ggX8_fingerprint_X8_in : GoodIn wsX8_fingerprint wsX8_in := goodIn_r _ [7] (by decide +kernel) (by decide +kernel)
set_option maxRecDepth 20000 in
theorem gX8_fingerprint_X8_in : GoodIn wsX8_fingerprint (va_wsS RX8 107 yX8_in wsX8_in) := goodIn_app (goodIn_of _ (by decide +kernel)) ggX8_fingerprint_X8_in
set_option maxRecDepth 20000 in
theorem ggX8_fingerprint_X8_told : GoodIn wsX8_fingerprint wsX8_told := goodIn_r _ [11, 12, 13, 14, 15, 6, 16, 1, 17, 18, 19, 20, 21, 22, 23, 24, 25, 26, 27, 28, 29, 30, 31, 32, 33, 34, 35, 36] (by decide +kernel) (by decide +kernel)
set_option maxRecDepth 20000 in
theorem gX8_fingerprint_X8_told : GoodIn wsX8_fingerprint (wsV RX8 186 RX8 yX8_told wsX8_told) := goodIn_app (goodIn_of _ (by decide +kernel)) ggX8_fingerprint_X8_told
theorem dX8_fingerprint_0 : decode cX8_fingerprint 0 = .ok (.aload_n 0, 1) := by decide +kernel
theorem dX8_fingerprint_1 : decode cX8_fingerprint 1 = .ok (.iconst 0, 1) := by decide +kernel
theorem dX8_fingerprint_2 : decode cX8_fingerprint 2 = .ok (.putfield 47, 3) := by decide +kernel
theorem dX8_fingerprint_5 : decode cX8_fingerprint 5 = .ok (.iload_n 1, 1) := by decide +kernel
theorem dX8_fingerprint_6 : decode cX8_fingerprint 6 = .ok (.iconst 0, 1) := by decide +kernel
theorem dX8_fingerprint_7 : decode cX8_fingerprint 7 = .ok (.aload_n 0, 1) := by decide +kernel
theorem dX8_fingerprint_8 : decode cX8_fingerprint 8 = .ok (.getfield 99, 3) := by decide +kernel
theorem dX8_fingerprint_11 : decode cX8_fingerprint 11 = .ok (.iconst 1, 1) := by decide +kernel
theorem dX8_fingerprint_12 : decode cX8_fingerprint 12 = .ok (.isub, 1) := by decide +kernel
theorem dX8_fingerprint_13 : decode cX8_fingerprint 13 = .ok (.invokestatic 107, 3) := by decide +kernel
theorem dX8_fingerprint_16 : decode cX8_fingerprint 16 = .ok (.istore_n 2, 1) := by decide +kernel
theorem dX8_fingerprint_17 : decode cX8_fingerprint 17 = .ok (.aload_n 0, 1) := by decide +kernel
theorem dX8_fingerprint_18 : decode cX8_fingerprint 18 = .ok (.iload_n 2, 1) := by decide +kernel
theorem dX8_fingerprint_19 : decode cX8_fingerprint 19 = .ok (.iload_n 2, 1) := by decide +kernel
theorem dX8_fingerprint_20 : decode cX8_fingerprint 20 = .ok (.ifCond .eq 12, 3) := by decide +kernel
theorem dX8_fingerprint_23 : decode cX8_fingerprint 23 = .ok (.aload_n 0, 1) := by decide +kernel
theorem dX8_fingerprint_24 : decode cX8_fingerprint 24 = .ok (.getfield 22, 3) := by decide +kernel
theorem dX8_fingerprint_27 : decode cX8_fingerprint 27 = .ok (.iload_n 1, 1) := by decide +kernel
theorem dX8_fingerprint_28 : decode cX8_fingerprint 28 = .ok (.iaload, 1) := by decide +kernel
theorem dX8_fingerprint_29 : decode cX8_fingerprint 29 = .ok (.goto 4, 3) := by decide +kernel
theorem dX8_fingerprint_32 : decode cX8_fingerprint 32 = .ok (.iconst 0, 1) := by decide +kernel
theorem dX8_fingerprint_33 : decode cX8_fingerprint 33 = .ok (.invokevirtual 186, 3) := by decide +kernel
theorem dX8_fingerprint_36 : decode cX8_fingerprint 36 = .ok (.ireturn, 1) := by decide +kernel
set_option maxRecDepth 20000 in
theorem ggX8_seed_X8_told : GoodIn wsX8_seed wsX8_told := goodIn_r _ [7, 8, 9, 10, 11, 6, 12, 1, 13, 14, 15, 16, 17, 18, 19, 20, 21, 22, 23, 24, 25, 26, 27, 28, 29, 30, 31, 32] (by decide +kernel) (by decide +kernel)
set_option maxRecDepth 20000 in
theorem gX8_seed_X8_told : GoodIn wsX8_seed (wsV RX8 186 RX8 yX8_told wsX8_told) := goodIn_app (goodIn_of _ (by decide +kernel)) ggX8_seed_X8_told
theorem dX8_seed_0 : decode cX8_seed 0 = .ok (.aload_n 0, 1) := by decide +kernel
theorem dX8_seed_1 : decode cX8_seed 1 = .ok (.iconst 0, 1) := by decide +kernel
theorem dX8_seed_2 : decode cX8_seed 2 = .ok (.putfield 47, 3) := by decide +kernel
theorem dX8_seed_5 : decode cX8_seed 5 = .ok (.aload_n 0, 1) := by decide +kernel
theorem dX8_seed_6 : decode cX8_seed 6 = .ok (.iconst 1, 1) := by decide +kernel
theorem dX8_seed_7 : decode cX8_seed 7 = .ok (.aload_n 0, 1) := by decide +kernel
theorem dX8_seed_8 : decode cX8_seed 8 = .ok (.getfield 162, 3) := by decide +kernel
theorem dX8_seed_11 : decode cX8_seed 11 = .ok (.invokevirtual 186, 3) := by decide +kernel
theorem dX8_seed_14 : decode cX8_seed 14 = .ok (.ireturn, 1) := by decide +kernel
set_option maxRecDepth 20000 in
theorem ggX8_buckets_X8_told : GoodIn wsX8_buckets wsX8_told := goodIn_r _ [7, 8, 9, 10, 11, 6, 12, 1, 13, 14, 15, 16, 17, 18, 19, 20, 21, 22, 23, 24, 25, 26, 27, 28, 29, 30, 31, 32] (by decide +kernel) (by decide +kernel)
set_option maxRecDepth 20000 in
theorem gX8_buckets_X8_told : GoodIn wsX8_buckets (wsV RX8 186 RX8 yX8_told wsX8_told) := goodIn_app (goodIn_of _ (by decide +kernel)) ggX8_buckets_X8_told
theorem dX8_buckets_0 : decode cX8_buckets 0 = .ok (.aload_n 0, 1) := by decide +kernel
theorem dX8_buckets_1 : decode cX8_buckets 1 = .ok (.iconst 0, 1) := by decide +kernel
theorem dX8_buckets_2 : decode cX8_buckets 2 = .ok (.putfield 47, 3) := by decide +kernel
theorem dX8_buckets_5 : decode cX8_buckets 5 = .ok (.aload_n 0, 1) := by decide +kernel
theorem dX8_buckets_6 : decode cX8_buckets 6 = .ok (.iconst 1, 1) := by decide +kernel
theorem dX8_buckets_7 : decode cX8_buckets 7 = .ok (.aload_n 0, 1) := by decide +kernel
theorem dX8_buckets_8 : decode cX8_buckets 8 = .ok (.getfield 149, 3) := by decide +kernel
theorem dX8_buckets_11 : decode cX8_buckets 11 = .ok (.invokevirtual 186, 3) := by decide +kernel
theorem dX8_buckets_14 : decode cX8_buckets 14 = .ok (.ireturn, 1) := by decide +kernel
set_option maxRecDepth 20000 in
theorem ggX8_inBucket_X8_in : GoodIn wsX8_inBucket wsX8_in := goodIn_r _ [7] (by decide +kernel) (by decide +kernel)
set_option maxRecDepth 20000 in
theorem gX8_inBucket_X8_in : GoodIn wsX8_inBucket (va_wsS RX8 107 yX8_in wsX8_in) := goodIn_app (goodIn_of _ (by decide +kernel)) ggX8_inBucket_X8_in
set_option maxRecDepth 20000 in
theorem ggX8_inBucket_X8_told : GoodIn wsX8_inBucket wsX8_told := goodIn_r _ [11, 12, 13, 14, 15, 6, 16, 1, 17, 18, 19, 20, 21, 22, 23, 24, 25, 26, 27, 28, 29, 30, 31, 32, 33, 34, 35, 36] (by decide +kernel) (by decide +kernel)
set_option maxRecDepth 20000 in
theorem gX8_inBucket_X8_told : GoodIn wsX8_inBucket (wsV RX8 186 RX8 yX8_told wsX8_told) := goodIn_app (goodIn_of _ (by decide +kernel)) ggX8_inBucket_X8_told
theorem dX8_inBucket_0 : decode cX8_inBucket 0 = .ok (.aload_n 0, 1) := by decide +kernel
theorem dX8_inBucket_1 : decode cX8_inBucket 1 = .ok (.iconst 0, 1) := by decide +kernel
theorem dX8_inBucket_2 : decode cX8_inBucket 2 = .ok (.putfield 47, 3) := by decide +kernel
theorem dX8_inBucket_5 : decode cX8_inBucket 5 = .ok (.iload_n 1, 1) := by decide +kernel
theorem dX8_inBucket_6 : decode cX8_inBucket 6 = .ok (.iconst 0, 1) := by decide +kernel
theorem dX8_inBucket_7 : decode cX8_inBucket 7 = .ok (.aload_n 0, 1) := by decide +kernel
theorem dX8_inBucket_8 : decode cX8_inBucket 8 = .ok (.getfield 149, 3) := by decide +kernel
theorem dX8_inBucket_11 : decode cX8_inBucket 11 = .ok (.iconst 1, 1) := by decide +kernel
theorem dX8_inBucket_12 : decode cX8_inBucket 12 = .ok (.isub, 1) := by decide +kernel
theorem dX8_inBucket_13 : decode cX8_inBucket 13 = .ok (.invokestatic 107, 3) := by decide +kernel
theorem dX8_inBucket_16 : decode cX8_inBucket 16 = .ok (.istore_n 2, 1) := by decide +kernel
theorem dX8_inBucket_17 : decode cX8_inBucket 17 = .ok (.aload_n 0, 1) := by decide +kernel
theorem dX8_inBucket_18 : decode cX8_inBucket 18 = .ok (.iload_n 2, 1) := by decide +kernel
theorem dX8_inBucket_19 : decode cX8_inBucket 19 = .ok (.iload_n 2, 1) := by decide +kernel
theorem dX8_inBucket_20 : decode cX8_inBucket 20 = .ok (.ifCond .eq 12, 3) := by decide +kernel
theorem dX8_inBucket_23 : decode cX8_inBucket 23 = .ok (.aload_n 0, 1) := by decide +kernel
theorem dX8_inBucket_24 : decode cX8_inBucket 24 = .ok (.getfield 13, 3) := by decide +kernel
theorem dX8_inBucket_27 : decode cX8_inBucket 27 = .ok (.iload_n 1, 1) := by decide +kernel
theorem dX8_inBucket_28 : decode cX8_inBucket 28 = .ok (.iaload, 1) := by decide +kernel
theorem dX8_inBucket_29 : decode cX8_inBucket 29 = .ok (.goto 4, 3) := by decide +kernel
theorem dX8_inBucket_32 : decode cX8_inBucket 32 = .ok (.iconst 0, 1) := by decide +kernel
theorem dX8_inBucket_33 : decode cX8_inBucket 33 = .ok (.invokevirtual 186, 3) := by decide +kernel
theorem dX8_inBucket_36 : decode cX8_inBucket 36 = .ok (.ireturn, 1) := by decide +kernel
set_option maxRecDepth 20000 in
theorem ggX8_displacement_X8_in : GoodIn wsX8_displacement wsX8_in := goodIn_r _ [7] (by decide +kernel) (by decide +kernel)
set_option maxRecDepth 20000 in
theorem gX8_displacement_X8_in : GoodIn wsX8_displacement (va_wsS RX8 107 yX8_in wsX8_in) := goodIn_app (goodIn_of _ (by decide +kernel)) ggX8_displacement_X8_in
set_option maxRecDepth 20000 in
theorem ggX8_displacement_X8_told : GoodIn wsX8_displacement wsX8_told := goodIn_r _ [11, 12, 13, 14, 15, 6, 16, 1, 17, 18, 19, 20, 21, 22, 23, 24, 25, 26, 27, 28, 29, 30, 31, 32, 33, 34, 35, 36] (by decide +kernel) (by decide +kernel)
set_option maxRecDepth 20000 in
theorem gX8_displacement_X8_told : GoodIn wsX8_displacement (wsV RX8 186 RX8 yX8_told wsX8_told) := goodIn_app (goodIn_of _ (by decide +kernel)) ggX8_displacement_X8_told
theorem dX8_displacement_0 : decode cX8_displacement 0 = .ok (.aload_n 0, 1) := by decide +kernel
theorem dX8_displacement_1 : decode cX8_displacement 1 = .ok (.iconst 0, 1) := by decide +kernel
theorem dX8_displacement_2 : decode cX8_displacement 2 = .ok (.putfield 47, 3) := by decide +kernel
theorem dX8_displacement_5 : decode cX8_displacement 5 = .ok (.iload_n 1, 1) := by decide +kernel
theorem dX8_displacement_6 : decode cX8_displacement 6 = .ok (.iconst 0, 1) := by decide +kernel
theorem dX8_displacement_7 : decode cX8_displacement 7 = .ok (.aload_n 0, 1) := by decide +kernel
theorem dX8_displacement_8 : decode cX8_displacement 8 = .ok (.getfield 149, 3) := by decide +kernel
theorem dX8_displacement_11 : decode cX8_displacement 11 = .ok (.iconst 1, 1) := by decide +kernel
theorem dX8_displacement_12 : decode cX8_displacement 12 = .ok (.isub, 1) := by decide +kernel
theorem dX8_displacement_13 : decode cX8_displacement 13 = .ok (.invokestatic 107, 3) := by decide +kernel
theorem dX8_displacement_16 : decode cX8_displacement 16 = .ok (.istore_n 2, 1) := by decide +kernel
theorem dX8_displacement_17 : decode cX8_displacement 17 = .ok (.aload_n 0, 1) := by decide +kernel
theorem dX8_displacement_18 : decode cX8_displacement 18 = .ok (.iload_n 2, 1) := by decide +kernel
theorem dX8_displacement_19 : decode cX8_displacement 19 = .ok (.iload_n 2, 1) := by decide +kernel
theorem dX8_displacement_20 : decode cX8_displacement 20 = .ok (.ifCond .eq 12, 3) := by decide +kernel
theorem dX8_displacement_23 : decode cX8_displacement 23 = .ok (.aload_n 0, 1) := by decide +kernel
theorem dX8_displacement_24 : decode cX8_displacement 24 = .ok (.getfield 16, 3) := by decide +kernel
theorem dX8_displacement_27 : decode cX8_displacement 27 = .ok (.iload_n 1, 1) := by decide +kernel
theorem dX8_displacement_28 : decode cX8_displacement 28 = .ok (.iaload, 1) := by decide +kernel
theorem dX8_displacement_29 : decode cX8_displacement 29 = .ok (.goto 4, 3) := by decide +kernel
theorem dX8_displacement_32 : decode cX8_displacement 32 = .ok (.iconst 0, 1) := by decide +kernel
theorem dX8_displacement_33 : decode cX8_displacement 33 = .ok (.invokevirtual 186, 3) := by decide +kernel
theorem dX8_displacement_36 : decode cX8_displacement 36 = .ok (.ireturn, 1) := by decide +kernel
set_option maxRecDepth 20000 in
theorem ggX8_width_X8_told : GoodIn wsX8_width wsX8_told := goodIn_r _ [7, 8, 9, 10, 11, 6, 12, 1, 13, 14, 15, 16, 17, 18, 19, 20, 21, 22, 23, 24, 25, 26, 27, 28, 29, 30, 31, 32] (by decide +kernel) (by decide +kernel)
set_option maxRecDepth 20000 in
theorem gX8_width_X8_told : GoodIn wsX8_width (wsV RX8 186 RX8 yX8_told wsX8_told) := goodIn_app (goodIn_of _ (by decide +kernel)) ggX8_width_X8_told
theorem dX8_width_0 : decode cX8_width 0 = .ok (.aload_n 0, 1) := by decide +kernel
theorem dX8_width_1 : decode cX8_width 1 = .ok (.iconst 0, 1) := by decide +kernel
theorem dX8_width_2 : decode cX8_width 2 = .ok (.putfield 47, 3) := by decide +kernel
theorem dX8_width_5 : decode cX8_width 5 = .ok (.aload_n 0, 1) := by decide +kernel
theorem dX8_width_6 : decode cX8_width 6 = .ok (.iconst 1, 1) := by decide +kernel
theorem dX8_width_7 : decode cX8_width 7 = .ok (.aload_n 0, 1) := by decide +kernel
theorem dX8_width_8 : decode cX8_width 8 = .ok (.getfield 152, 3) := by decide +kernel
theorem dX8_width_11 : decode cX8_width 11 = .ok (.invokevirtual 186, 3) := by decide +kernel
theorem dX8_width_14 : decode cX8_width 14 = .ok (.ireturn, 1) := by decide +kernel
set_option maxRecDepth 20000 in
theorem ggX8_word_X8_fails : GoodIn wsX8_word wsX8_fails := goodIn_r _ [10, 1, 14, 15, 16, 17, 18, 19, 20, 21, 22, 23, 24, 25, 26, 27, 28, 29, 30, 31, 32, 33] (by decide +kernel) (by decide +kernel)
set_option maxRecDepth 20000 in
theorem gX8_word_X8_fails : GoodIn wsX8_word (wsV RX8 111 RX8 yX8_fails wsX8_fails) := goodIn_app (goodIn_of _ (by decide +kernel)) ggX8_word_X8_fails
set_option maxRecDepth 20000 in
theorem ggX8_word_X8_in : GoodIn wsX8_word wsX8_in := goodIn_r _ [13] (by decide +kernel) (by decide +kernel)
set_option maxRecDepth 20000 in
theorem gX8_word_X8_in : GoodIn wsX8_word (va_wsS RX8 107 yX8_in wsX8_in) := goodIn_app (goodIn_of _ (by decide +kernel)) ggX8_word_X8_in
theorem dX8_word_0 : decode cX8_word 0 = .ok (.aload_n 0, 1) := by decide +kernel
theorem dX8_word_1 : decode cX8_word 1 = .ok (.iconst 0, 1) := by decide +kernel
theorem dX8_word_2 : decode cX8_word 2 = .ok (.putfield 47, 3) := by decide +kernel
theorem dX8_word_5 : decode cX8_word 5 = .ok (.aload_n 0, 1) := by decide +kernel
theorem dX8_word_6 : decode cX8_word 6 = .ok (.getfield 114, 3) := by decide +kernel
theorem dX8_word_9 : decode cX8_word 9 = .ok (.ifCond .ne 10, 3) := by decide +kernel
theorem dX8_word_12 : decode cX8_word 12 = .ok (.aload_n 0, 1) := by decide +kernel
theorem dX8_word_13 : decode cX8_word 13 = .ok (.iconst 1, 1) := by decide +kernel
theorem dX8_word_14 : decode cX8_word 14 = .ok (.invokevirtual 111, 3) := by decide +kernel
theorem dX8_word_17 : decode cX8_word 17 = .ok (.i2l, 1) := by decide +kernel
theorem dX8_word_18 : decode cX8_word 18 = .ok (.lreturn, 1) := by decide +kernel
theorem dX8_word_19 : decode cX8_word 19 = .ok (.iload_n 1, 1) := by decide +kernel
theorem dX8_word_20 : decode cX8_word 20 = .ok (.iconst 0, 1) := by decide +kernel
theorem dX8_word_21 : decode cX8_word 21 = .ok (.aload_n 0, 1) := by decide +kernel
theorem dX8_word_22 : decode cX8_word 22 = .ok (.getfield 149, 3) := by decide +kernel
theorem dX8_word_25 : decode cX8_word 25 = .ok (.aload_n 0, 1) := by decide +kernel
theorem dX8_word_26 : decode cX8_word 26 = .ok (.getfield 152, 3) := by decide +kernel
theorem dX8_word_29 : decode cX8_word 29 = .ok (.imul, 1) := by decide +kernel
theorem dX8_word_30 : decode cX8_word 30 = .ok (.iconst 1, 1) := by decide +kernel
theorem dX8_word_31 : decode cX8_word 31 = .ok (.isub, 1) := by decide +kernel
theorem dX8_word_32 : decode cX8_word 32 = .ok (.bipush 64, 2) := by decide +kernel
theorem dX8_word_34 : decode cX8_word 34 = .ok (.idiv, 1) := by decide +kernel
theorem dX8_word_35 : decode cX8_word 35 = .ok (.invokestatic 107, 3) := by decide +kernel
theorem dX8_word_38 : decode cX8_word 38 = .ok (.ifCond .eq 12, 3) := by decide +kernel
theorem dX8_word_41 : decode cX8_word 41 = .ok (.aload_n 0, 1) := by decide +kernel
theorem dX8_word_42 : decode cX8_word 42 = .ok (.getfield 34, 3) := by decide +kernel
theorem dX8_word_45 : decode cX8_word 45 = .ok (.iload_n 1, 1) := by decide +kernel
theorem dX8_word_46 : decode cX8_word 46 = .ok (.laload, 1) := by decide +kernel
theorem dX8_word_47 : decode cX8_word 47 = .ok (.goto 9, 3) := by decide +kernel
theorem dX8_word_50 : decode cX8_word 50 = .ok (.aload_n 0, 1) := by decide +kernel
theorem dX8_word_51 : decode cX8_word 51 = .ok (.iconst 2, 1) := by decide +kernel
theorem dX8_word_52 : decode cX8_word 52 = .ok (.invokevirtual 111, 3) := by decide +kernel
theorem dX8_word_55 : decode cX8_word 55 = .ok (.i2l, 1) := by decide +kernel
theorem dX8_word_56 : decode cX8_word 56 = .ok (.lreturn, 1) := by decide +kernel
set_option maxRecDepth 20000 in
theorem ggX8_byGraph_X8_in : GoodIn wsX8_byGraph wsX8_in := goodIn_r _ [10] (by decide +kernel) (by decide +kernel)
set_option maxRecDepth 20000 in
theorem gX8_byGraph_X8_in : GoodIn wsX8_byGraph (va_wsS RX8 107 yX8_in wsX8_in) := goodIn_app (goodIn_of _ (by decide +kernel)) ggX8_byGraph_X8_in
set_option maxRecDepth 20000 in
theorem ggX8_byGraph_X8_fails : GoodIn wsX8_byGraph wsX8_fails := goodIn_r _ [14, 1, 46, 47, 48, 49, 50, 51, 52, 53, 54, 55, 56, 57, 58, 59, 60, 61, 62, 63, 64, 65] (by decide +kernel) (by decide +kernel)
set_option maxRecDepth 20000 in
theorem gX8_byGraph_X8_fails : GoodIn wsX8_byGraph (wsV RX8 111 RX8 yX8_fails wsX8_fails) := goodIn_app (goodIn_of _ (by decide +kernel)) ggX8_byGraph_X8_fails
set_option maxRecDepth 20000 in
theorem ggX8_byGraph_X8_hash : GoodIn wsX8_byGraph wsX8_hash := goodIn_r _ [17, 18, 19, 20, 9, 21, 22, 23, 24, 25, 26, 27, 28, 29, 30, 31, 32, 33, 34, 35, 36, 37, 38, 39, 40, 41, 42, 43, 44, 45] (by decide +kernel) (by decide +kernel)
set_option maxRecDepth 20000 in
theorem gX8_byGraph_X8_hash : GoodIn wsX8_byGraph (va_wsS RX8 126 yX8_hash wsX8_hash) := goodIn_app (goodIn_of _ (by decide +kernel)) ggX8_byGraph_X8_hash
theorem dX8_byGraph_0 : decode cX8_byGraph 0 = .ok (.aload_n 0, 1) := by decide +kernel
theorem dX8_byGraph_1 : decode cX8_byGraph 1 = .ok (.iconst 0, 1) := by decide +kernel
theorem dX8_byGraph_2 : decode cX8_byGraph 2 = .ok (.putfield 47, 3) := by decide +kernel
theorem dX8_byGraph_5 : decode cX8_byGraph 5 = .ok (.iload_n 1, 1) := by decide +kernel
theorem dX8_byGraph_6 : decode cX8_byGraph 6 = .ok (.iconst 0, 1) := by decide +kernel
theorem dX8_byGraph_7 : decode cX8_byGraph 7 = .ok (.ldc 106, 2) := by decide +kernel
theorem dX8_byGraph_9 : decode cX8_byGraph 9 = .ok (.invokestatic 107, 3) := by decide +kernel
theorem dX8_byGraph_12 : decode cX8_byGraph 12 = .ok (.ifCond .ne 9, 3) := by decide +kernel
theorem dX8_byGraph_15 : decode cX8_byGraph 15 = .ok (.aload_n 0, 1) := by decide +kernel
theorem dX8_byGraph_16 : decode cX8_byGraph 16 = .ok (.iconst 1, 1) := by decide +kernel
theorem dX8_byGraph_17 : decode cX8_byGraph 17 = .ok (.invokevirtual 111, 3) := by decide +kernel
theorem dX8_byGraph_20 : decode cX8_byGraph 20 = .ok (.ireturn, 1) := by decide +kernel
theorem dX8_byGraph_21 : decode cX8_byGraph 21 = .ok (.aload_n 0, 1) := by decide +kernel
theorem dX8_byGraph_22 : decode cX8_byGraph 22 = .ok (.getfield 114, 3) := by decide +kernel
theorem dX8_byGraph_25 : decode cX8_byGraph 25 = .ok (.ifCond .ne 9, 3) := by decide +kernel
theorem dX8_byGraph_28 : decode cX8_byGraph 28 = .ok (.aload_n 0, 1) := by decide +kernel
theorem dX8_byGraph_29 : decode cX8_byGraph 29 = .ok (.iconst 2, 1) := by decide +kernel
theorem dX8_byGraph_30 : decode cX8_byGraph 30 = .ok (.invokevirtual 111, 3) := by decide +kernel
theorem dX8_byGraph_33 : decode cX8_byGraph 33 = .ok (.ireturn, 1) := by decide +kernel
theorem dX8_byGraph_34 : decode cX8_byGraph 34 = .ok (.aload_n 0, 1) := by decide +kernel
theorem dX8_byGraph_35 : decode cX8_byGraph 35 = .ok (.getfield 38, 3) := by decide +kernel
theorem dX8_byGraph_38 : decode cX8_byGraph 38 = .ok (.iconst 4, 1) := by decide +kernel
theorem dX8_byGraph_39 : decode cX8_byGraph 39 = .ok (.iload_n 1, 1) := by decide +kernel
theorem dX8_byGraph_40 : decode cX8_byGraph 40 = .ok (.aload_n 0, 1) := by decide +kernel
theorem dX8_byGraph_41 : decode cX8_byGraph 41 = .ok (.getfield 165, 3) := by decide +kernel
theorem dX8_byGraph_44 : decode cX8_byGraph 44 = .ok (.invokestatic 126, 3) := by decide +kernel
theorem dX8_byGraph_47 : decode cX8_byGraph 47 = .ok (.iconst 3, 1) := by decide +kernel
theorem dX8_byGraph_48 : decode cX8_byGraph 48 = .ok (.aload_n 0, 1) := by decide +kernel
theorem dX8_byGraph_49 : decode cX8_byGraph 49 = .ok (.getfield 99, 3) := by decide +kernel
theorem dX8_byGraph_52 : decode cX8_byGraph 52 = .ok (.imul, 1) := by decide +kernel
theorem dX8_byGraph_53 : decode cX8_byGraph 53 = .ok (.irem, 1) := by decide +kernel
theorem dX8_byGraph_54 : decode cX8_byGraph 54 = .ok (.iaload, 1) := by decide +kernel
theorem dX8_byGraph_55 : decode cX8_byGraph 55 = .ok (.aload_n 0, 1) := by decide +kernel
theorem dX8_byGraph_56 : decode cX8_byGraph 56 = .ok (.getfield 38, 3) := by decide +kernel
theorem dX8_byGraph_59 : decode cX8_byGraph 59 = .ok (.iconst 5, 1) := by decide +kernel
theorem dX8_byGraph_60 : decode cX8_byGraph 60 = .ok (.iload_n 1, 1) := by decide +kernel
theorem dX8_byGraph_61 : decode cX8_byGraph 61 = .ok (.aload_n 0, 1) := by decide +kernel
theorem dX8_byGraph_62 : decode cX8_byGraph 62 = .ok (.getfield 165, 3) := by decide +kernel
theorem dX8_byGraph_65 : decode cX8_byGraph 65 = .ok (.invokestatic 126, 3) := by decide +kernel
theorem dX8_byGraph_68 : decode cX8_byGraph 68 = .ok (.iconst 3, 1) := by decide +kernel
theorem dX8_byGraph_69 : decode cX8_byGraph 69 = .ok (.aload_n 0, 1) := by decide +kernel
theorem dX8_byGraph_70 : decode cX8_byGraph 70 = .ok (.getfield 99, 3) := by decide +kernel
theorem dX8_byGraph_73 : decode cX8_byGraph 73 = .ok (.imul, 1) := by decide +kernel
theorem dX8_byGraph_74 : decode cX8_byGraph 74 = .ok (.irem, 1) := by decide +kernel
theorem dX8_byGraph_75 : decode cX8_byGraph 75 = .ok (.iaload, 1) := by decide +kernel
theorem dX8_byGraph_76 : decode cX8_byGraph 76 = .ok (.iadd, 1) := by decide +kernel
theorem dX8_byGraph_77 : decode cX8_byGraph 77 = .ok (.aload_n 0, 1) := by decide +kernel
theorem dX8_byGraph_78 : decode cX8_byGraph 78 = .ok (.getfield 99, 3) := by decide +kernel
theorem dX8_byGraph_81 : decode cX8_byGraph 81 = .ok (.irem, 1) := by decide +kernel
theorem dX8_byGraph_82 : decode cX8_byGraph 82 = .ok (.ireturn, 1) := by decide +kernel
set_option maxRecDepth 20000 in
theorem ggX8_graphSeed_X8_told : GoodIn wsX8_graphSeed wsX8_told := goodIn_r _ [7, 8, 9, 10, 11, 6, 12, 1, 13, 14, 15, 16, 17, 18, 19, 20, 21, 22, 23, 24, 25, 26, 27, 28, 29, 30, 31, 32] (by decide +kernel) (by decide +kernel)
set_option maxRecDepth 20000 in
theorem gX8_graphSeed_X8_told : GoodIn wsX8_graphSeed (wsV RX8 186 RX8 yX8_told wsX8_told) := goodIn_app (goodIn_of _ (by decide +kernel)) ggX8_graphSeed_X8_told
theorem dX8_graphSeed_0 : decode cX8_graphSeed 0 = .ok (.aload_n 0, 1) := by decide +kernel
theorem dX8_graphSeed_1 : decode cX8_graphSeed 1 = .ok (.iconst 0, 1) := by decide +kernel
theorem dX8_graphSeed_2 : decode cX8_graphSeed 2 = .ok (.putfield 47, 3) := by decide +kernel
theorem dX8_graphSeed_5 : decode cX8_graphSeed 5 = .ok (.aload_n 0, 1) := by decide +kernel
theorem dX8_graphSeed_6 : decode cX8_graphSeed 6 = .ok (.iconst 1, 1) := by decide +kernel
theorem dX8_graphSeed_7 : decode cX8_graphSeed 7 = .ok (.aload_n 0, 1) := by decide +kernel
theorem dX8_graphSeed_8 : decode cX8_graphSeed 8 = .ok (.getfield 165, 3) := by decide +kernel
theorem dX8_graphSeed_11 : decode cX8_graphSeed 11 = .ok (.invokevirtual 186, 3) := by decide +kernel
theorem dX8_graphSeed_14 : decode cX8_graphSeed 14 = .ok (.ireturn, 1) := by decide +kernel
set_option maxRecDepth 20000 in
theorem ggX8_valueOf_X8_in : GoodIn wsX8_valueOf wsX8_in := goodIn_r _ [7] (by decide +kernel) (by decide +kernel)
set_option maxRecDepth 20000 in
theorem gX8_valueOf_X8_in : GoodIn wsX8_valueOf (va_wsS RX8 107 yX8_in wsX8_in) := goodIn_app (goodIn_of _ (by decide +kernel)) ggX8_valueOf_X8_in
set_option maxRecDepth 20000 in
theorem ggX8_valueOf_X8_told : GoodIn wsX8_valueOf wsX8_told := goodIn_r _ [11, 12, 13, 14, 15, 6, 16, 1, 17, 18, 19, 20, 21, 22, 23, 24, 25, 26, 27, 28, 29, 30, 31, 32, 33, 34, 35, 36] (by decide +kernel) (by decide +kernel)
set_option maxRecDepth 20000 in
theorem gX8_valueOf_X8_told : GoodIn wsX8_valueOf (wsV RX8 186 RX8 yX8_told wsX8_told) := goodIn_app (goodIn_of _ (by decide +kernel)) ggX8_valueOf_X8_told
theorem dX8_valueOf_0 : decode cX8_valueOf 0 = .ok (.aload_n 0, 1) := by decide +kernel
theorem dX8_valueOf_1 : decode cX8_valueOf 1 = .ok (.iconst 0, 1) := by decide +kernel
theorem dX8_valueOf_2 : decode cX8_valueOf 2 = .ok (.putfield 47, 3) := by decide +kernel
theorem dX8_valueOf_5 : decode cX8_valueOf 5 = .ok (.iload_n 1, 1) := by decide +kernel
theorem dX8_valueOf_6 : decode cX8_valueOf 6 = .ok (.iconst 0, 1) := by decide +kernel
theorem dX8_valueOf_7 : decode cX8_valueOf 7 = .ok (.iconst 3, 1) := by decide +kernel
theorem dX8_valueOf_8 : decode cX8_valueOf 8 = .ok (.aload_n 0, 1) := by decide +kernel
theorem dX8_valueOf_9 : decode cX8_valueOf 9 = .ok (.getfield 99, 3) := by decide +kernel
theorem dX8_valueOf_12 : decode cX8_valueOf 12 = .ok (.imul, 1) := by decide +kernel
theorem dX8_valueOf_13 : decode cX8_valueOf 13 = .ok (.iconst 1, 1) := by decide +kernel
theorem dX8_valueOf_14 : decode cX8_valueOf 14 = .ok (.isub, 1) := by decide +kernel
theorem dX8_valueOf_15 : decode cX8_valueOf 15 = .ok (.invokestatic 107, 3) := by decide +kernel
theorem dX8_valueOf_18 : decode cX8_valueOf 18 = .ok (.istore_n 2, 1) := by decide +kernel
theorem dX8_valueOf_19 : decode cX8_valueOf 19 = .ok (.aload_n 0, 1) := by decide +kernel
theorem dX8_valueOf_20 : decode cX8_valueOf 20 = .ok (.iload_n 2, 1) := by decide +kernel
theorem dX8_valueOf_21 : decode cX8_valueOf 21 = .ok (.iload_n 2, 1) := by decide +kernel
theorem dX8_valueOf_22 : decode cX8_valueOf 22 = .ok (.ifCond .eq 12, 3) := by decide +kernel
theorem dX8_valueOf_25 : decode cX8_valueOf 25 = .ok (.aload_n 0, 1) := by decide +kernel
theorem dX8_valueOf_26 : decode cX8_valueOf 26 = .ok (.getfield 38, 3) := by decide +kernel
theorem dX8_valueOf_29 : decode cX8_valueOf 29 = .ok (.iload_n 1, 1) := by decide +kernel
theorem dX8_valueOf_30 : decode cX8_valueOf 30 = .ok (.iaload, 1) := by decide +kernel
theorem dX8_valueOf_31 : decode cX8_valueOf 31 = .ok (.goto 4, 3) := by decide +kernel
theorem dX8_valueOf_34 : decode cX8_valueOf 34 = .ok (.iconst 0, 1) := by decide +kernel
theorem dX8_valueOf_35 : decode cX8_valueOf 35 = .ok (.invokevirtual 186, 3) := by decide +kernel
theorem dX8_valueOf_38 : decode cX8_valueOf 38 = .ok (.ireturn, 1) := by decide +kernel
theorem dJ9_max_7cf53_0 : decode cJ9_max_7cf53 0 = .ok (.iload_n 0, 1) := by decide +kernel
theorem dJ9_max_7cf53_1 : decode cJ9_max_7cf53 1 = .ok (.iload_n 1, 1) := by decide +kernel
theorem dJ9_max_7cf53_2 : decode cJ9_max_7cf53 2 = .ok (.if_icmp .lt 7, 3) := by decide +kernel
theorem dJ9_max_7cf53_5 : decode cJ9_max_7cf53 5 = .ok (.iload_n 0, 1) := by decide +kernel
theorem dJ9_max_7cf53_6 : decode cJ9_max_7cf53 6 = .ok (.goto 4, 3) := by decide +kernel
theorem dJ9_max_7cf53_9 : decode cJ9_max_7cf53 9 = .ok (.iload_n 1, 1) := by decide +kernel
theorem dJ9_max_7cf53_10 : decode cJ9_max_7cf53 10 = .ok (.ireturn, 1) := by decide +kernel
theorem dJ9_min_7cf53_0 : decode cJ9_min_7cf53 0 = .ok (.iload_n 0, 1) := by decide +kernel
theorem dJ9_min_7cf53_1 : decode cJ9_min_7cf53 1 = .ok (.iload_n 1, 1) := by decide +kernel
theorem dJ9_min_7cf53_2 : decode cJ9_min_7cf53 2 = .ok (.if_icmp .gt 7, 3) := by decide +kernel
theorem dJ9_min_7cf53_5 : decode cJ9_min_7cf53 5 = .ok (.iload_n 0, 1) := by decide +kernel
theorem dJ9_min_7cf53_6 : decode cJ9_min_7cf53 6 = .ok (.goto 4, 3) := by decide +kernel
theorem dJ9_min_7cf53_9 : decode cJ9_min_7cf53 9 = .ok (.iload_n 1, 1) := by decide +kernel
theorem dJ9_min_7cf53_10 : decode cJ9_min_7cf53 10 = .ok (.ireturn, 1) := by decide +kernel
theorem dJ7_fill_d0a16_0 : decode cJ7_fill_d0a16 0 = .ok (.iconst 0, 1) := by decide +kernel
theorem dJ7_fill_d0a16_1 : decode cJ7_fill_d0a16 1 = .ok (.istore_n 3, 1) := by decide +kernel
theorem dJ7_fill_d0a16_2 : decode cJ7_fill_d0a16 2 = .ok (.aload_n 0, 1) := by decide +kernel
theorem dJ7_fill_d0a16_3 : decode cJ7_fill_d0a16 3 = .ok (.arraylength, 1) := by decide +kernel
theorem dJ7_fill_d0a16_4 : decode cJ7_fill_d0a16 4 = .ok (.istore 4, 2) := by decide +kernel
theorem dJ7_fill_d0a16_6 : decode cJ7_fill_d0a16 6 = .ok (.iload_n 3, 1) := by decide +kernel
theorem dJ7_fill_d0a16_7 : decode cJ7_fill_d0a16 7 = .ok (.iload 4, 2) := by decide +kernel
theorem dJ7_fill_d0a16_9 : decode cJ7_fill_d0a16 9 = .ok (.if_icmp .ge 13, 3) := by decide +kernel
theorem dJ7_fill_d0a16_12 : decode cJ7_fill_d0a16 12 = .ok (.aload_n 0, 1) := by decide +kernel
theorem dJ7_fill_d0a16_13 : decode cJ7_fill_d0a16 13 = .ok (.iload_n 3, 1) := by decide +kernel
theorem dJ7_fill_d0a16_14 : decode cJ7_fill_d0a16 14 = .ok (.lload_n 1, 1) := by decide +kernel
theorem dJ7_fill_d0a16_15 : decode cJ7_fill_d0a16 15 = .ok (.lastore, 1) := by decide +kernel
theorem dJ7_fill_d0a16_16 : decode cJ7_fill_d0a16 16 = .ok (.iinc 3 1, 3) := by decide +kernel
theorem dJ7_fill_d0a16_19 : decode cJ7_fill_d0a16 19 = .ok (.goto (-13), 3) := by decide +kernel
theorem dJ7_fill_d0a16_22 : decode cJ7_fill_d0a16 22 = .ok (.return_, 1) := by decide +kernel
theorem dJ7_fill_53178_0 : decode cJ7_fill_53178 0 = .ok (.iconst 0, 1) := by decide +kernel
theorem dJ7_fill_53178_1 : decode cJ7_fill_53178 1 = .ok (.istore_n 2, 1) := by decide +kernel
theorem dJ7_fill_53178_2 : decode cJ7_fill_53178 2 = .ok (.aload_n 0, 1) := by decide +kernel
theorem dJ7_fill_53178_3 : decode cJ7_fill_53178 3 = .ok (.arraylength, 1) := by decide +kernel
theorem dJ7_fill_53178_4 : decode cJ7_fill_53178 4 = .ok (.istore_n 3, 1) := by decide +kernel
theorem dJ7_fill_53178_5 : decode cJ7_fill_53178 5 = .ok (.iload_n 2, 1) := by decide +kernel
theorem dJ7_fill_53178_6 : decode cJ7_fill_53178 6 = .ok (.iload_n 3, 1) := by decide +kernel
theorem dJ7_fill_53178_7 : decode cJ7_fill_53178 7 = .ok (.if_icmp .ge 13, 3) := by decide +kernel
theorem dJ7_fill_53178_10 : decode cJ7_fill_53178 10 = .ok (.aload_n 0, 1) := by decide +kernel
theorem dJ7_fill_53178_11 : decode cJ7_fill_53178 11 = .ok (.iload_n 2, 1) := by decide +kernel
theorem dJ7_fill_53178_12 : decode cJ7_fill_53178 12 = .ok (.iload_n 1, 1) := by decide +kernel
theorem dJ7_fill_53178_13 : decode cJ7_fill_53178 13 = .ok (.iastore, 1) := by decide +kernel
theorem dJ7_fill_53178_14 : decode cJ7_fill_53178 14 = .ok (.iinc 2 1, 3) := by decide +kernel
theorem dJ7_fill_53178_17 : decode cJ7_fill_53178 17 = .ok (.goto (-12), 3) := by decide +kernel
theorem dJ7_fill_53178_20 : decode cJ7_fill_53178 20 = .ok (.return_, 1) := by decide +kernel
set_option maxRecDepth 20000 in
theorem ggL_add_X7_add : GoodIn wsL_add wsX7_add := goodIn_ca (goodIn_ca (goodIn_r _ [7, 8, 9, 10, 11, 12, 6, 13, 14, 15, 16, 17, 18, 19, 20, 21, 22, 23, 24, 25, 26, 27, 28, 29, 30, 31, 32, 33, 34, 35, 36, 37, 38, 39, 40, 41, 42, 43, 44, 45, 46, 47, 48, 49, 50, 51, 52, 53, 54, 55, 56] (by decide +kernel) (by decide +kernel)) (goodIn_sub (fun _ h => List.mem_cons_of_mem _ (List.mem_append_left _ (List.mem_append_right _ h))) (by decide +kernel))) (goodIn_sub (fun _ h => List.mem_cons_of_mem _ (List.mem_append_right _ h)) (by decide +kernel))
set_option maxRecDepth 20000 in
theorem gL_add_X7_add : GoodIn wsL_add (wsV RL 7 RX7 yX7_add wsX7_add) := goodIn_app (goodIn_of _ (by decide +kernel)) ggL_add_X7_add
theorem dL_add_0 : decode cL_add 0 = .ok (.aload_n 2, 1) := by decide +kernel
theorem dL_add_1 : decode cL_add 1 = .ok (.iconst 0, 1) := by decide +kernel
theorem dL_add_2 : decode cL_add 2 = .ok (.aload_n 0, 1) := by decide +kernel
theorem dL_add_3 : decode cL_add 3 = .ok (.iload_n 1, 1) := by decide +kernel
theorem dL_add_4 : decode cL_add 4 = .ok (.invokevirtual 7, 3) := by decide +kernel
theorem dL_add_7 : decode cL_add 7 = .ok (.i2l, 1) := by decide +kernel
theorem dL_add_8 : decode cL_add 8 = .ok (.lastore, 1) := by decide +kernel
theorem dL_add_9 : decode cL_add 9 = .ok (.goto 9, 3) := by decide +kernel
theorem dL_add_12 : decode cL_add 12 = .ok (.astore_n 3, 1) := by decide +kernel
theorem dL_add_13 : decode cL_add 13 = .ok (.iconst 1, 1) := by decide +kernel
theorem dL_add_14 : decode cL_add 14 = .ok (.ireturn, 1) := by decide +kernel
theorem dL_add_15 : decode cL_add 15 = .ok (.astore_n 3, 1) := by decide +kernel
theorem dL_add_16 : decode cL_add 16 = .ok (.iconst 2, 1) := by decide +kernel
theorem dL_add_17 : decode cL_add 17 = .ok (.ireturn, 1) := by decide +kernel
theorem dL_add_18 : decode cL_add 18 = .ok (.iconst 0, 1) := by decide +kernel
theorem dL_add_19 : decode cL_add 19 = .ok (.ireturn, 1) := by decide +kernel
set_option maxRecDepth 20000 in
theorem ggL_addLine_X7_addLine : GoodIn wsL_addLine wsX7_addLine := goodIn_ca (goodIn_ca (goodIn_r _ [7, 8, 9, 10, 6, 11, 12, 13, 14, 15, 16, 17, 18, 19, 20, 21, 22, 23, 24, 25, 26, 27, 28, 29, 30, 31, 32, 33, 34, 35, 36, 37, 38, 39, 40, 41, 42, 43, 44, 45, 46, 47, 48, 49, 50, 51, 52, 53, 54, 55, 56, 57, 58, 59, 60, 61, 62, 63] (by decide +kernel) (by decide +kernel)) (goodIn_sub (fun _ h => List.mem_cons_of_mem _ (List.mem_append_left _ (List.mem_append_right _ h))) (by decide +kernel))) (goodIn_sub (fun _ h => List.mem_cons_of_mem _ (List.mem_append_right _ h)) (by decide +kernel))
set_option maxRecDepth 20000 in
theorem gL_addLine_X7_addLine : GoodIn wsL_addLine (wsV RL 17 RX7 yX7_addLine wsX7_addLine) := goodIn_app (goodIn_of _ (by decide +kernel)) ggL_addLine_X7_addLine
theorem dL_addLine_0 : decode cL_addLine 0 = .ok (.aload 4, 2) := by decide +kernel
theorem dL_addLine_2 : decode cL_addLine 2 = .ok (.iconst 0, 1) := by decide +kernel
theorem dL_addLine_3 : decode cL_addLine 3 = .ok (.aload_n 0, 1) := by decide +kernel
theorem dL_addLine_4 : decode cL_addLine 4 = .ok (.iload_n 1, 1) := by decide +kernel
theorem dL_addLine_5 : decode cL_addLine 5 = .ok (.iload_n 2, 1) := by decide +kernel
theorem dL_addLine_6 : decode cL_addLine 6 = .ok (.iload_n 3, 1) := by decide +kernel
theorem dL_addLine_7 : decode cL_addLine 7 = .ok (.invokevirtual 17, 3) := by decide +kernel
theorem dL_addLine_10 : decode cL_addLine 10 = .ok (.i2l, 1) := by decide +kernel
theorem dL_addLine_11 : decode cL_addLine 11 = .ok (.lastore, 1) := by decide +kernel
theorem dL_addLine_12 : decode cL_addLine 12 = .ok (.goto 11, 3) := by decide +kernel
theorem dL_addLine_15 : decode cL_addLine 15 = .ok (.astore 5, 2) := by decide +kernel
theorem dL_addLine_17 : decode cL_addLine 17 = .ok (.iconst 1, 1) := by decide +kernel
theorem dL_addLine_18 : decode cL_addLine 18 = .ok (.ireturn, 1) := by decide +kernel
theorem dL_addLine_19 : decode cL_addLine 19 = .ok (.astore 5, 2) := by decide +kernel
theorem dL_addLine_21 : decode cL_addLine 21 = .ok (.iconst 2, 1) := by decide +kernel
theorem dL_addLine_22 : decode cL_addLine 22 = .ok (.ireturn, 1) := by decide +kernel
theorem dL_addLine_23 : decode cL_addLine 23 = .ok (.iconst 0, 1) := by decide +kernel
theorem dL_addLine_24 : decode cL_addLine 24 = .ok (.ireturn, 1) := by decide +kernel
set_option maxRecDepth 20000 in
theorem ggL_remove_X7_remove : GoodIn wsL_remove wsX7_remove := goodIn_ca (goodIn_ca (goodIn_r _ [7, 8, 9, 10, 11, 12, 6, 13, 14, 15, 16, 17, 18, 19, 20, 21, 22, 23, 24, 25, 26, 27, 28, 29, 30, 31, 32, 33, 34, 35, 36, 37, 38, 39, 40, 41, 42, 43, 44, 45, 46, 47, 48, 49, 50, 51, 52] (by decide +kernel) (by decide +kernel)) (goodIn_sub (fun _ h => List.mem_cons_of_mem _ (List.mem_append_left _ (List.mem_append_right _ h))) (by decide +kernel))) (goodIn_sub (fun _ h => List.mem_cons_of_mem _ (List.mem_append_right _ h)) (by decide +kernel))
set_option maxRecDepth 20000 in
theorem gL_remove_X7_remove : GoodIn wsL_remove (wsV RL 21 RX7 yX7_remove wsX7_remove) := goodIn_app (goodIn_of _ (by decide +kernel)) ggL_remove_X7_remove
theorem dL_remove_0 : decode cL_remove 0 = .ok (.aload_n 2, 1) := by decide +kernel
theorem dL_remove_1 : decode cL_remove 1 = .ok (.iconst 0, 1) := by decide +kernel
theorem dL_remove_2 : decode cL_remove 2 = .ok (.aload_n 0, 1) := by decide +kernel
theorem dL_remove_3 : decode cL_remove 3 = .ok (.iload_n 1, 1) := by decide +kernel
theorem dL_remove_4 : decode cL_remove 4 = .ok (.invokevirtual 21, 3) := by decide +kernel
theorem dL_remove_7 : decode cL_remove 7 = .ok (.i2l, 1) := by decide +kernel
theorem dL_remove_8 : decode cL_remove 8 = .ok (.lastore, 1) := by decide +kernel
theorem dL_remove_9 : decode cL_remove 9 = .ok (.goto 9, 3) := by decide +kernel
theorem dL_remove_12 : decode cL_remove 12 = .ok (.astore_n 3, 1) := by decide +kernel
theorem dL_remove_13 : decode cL_remove 13 = .ok (.iconst 1, 1) := by decide +kernel
theorem dL_remove_14 : decode cL_remove 14 = .ok (.ireturn, 1) := by decide +kernel
theorem dL_remove_15 : decode cL_remove 15 = .ok (.astore_n 3, 1) := by decide +kernel
theorem dL_remove_16 : decode cL_remove 16 = .ok (.iconst 2, 1) := by decide +kernel
theorem dL_remove_17 : decode cL_remove 17 = .ok (.ireturn, 1) := by decide +kernel
theorem dL_remove_18 : decode cL_remove 18 = .ok (.iconst 0, 1) := by decide +kernel
theorem dL_remove_19 : decode cL_remove 19 = .ok (.ireturn, 1) := by decide +kernel
set_option maxRecDepth 20000 in
theorem ggL_has_X7_has : GoodIn wsL_has wsX7_has := goodIn_ca (goodIn_r _ [6, 7, 8, 9, 5, 10, 11, 12, 13, 14, 15, 16, 17, 18, 19, 20, 21, 22, 23, 24, 25, 26, 27, 28, 29, 30, 31, 32, 33, 34, 35, 36, 37, 38] (by decide +kernel) (by decide +kernel)) (goodIn_sub (fun _ h => List.mem_cons_of_mem _ (List.mem_append_right _ h)) (by decide +kernel))
set_option maxRecDepth 20000 in
theorem gL_has_X7_has : GoodIn wsL_has (wsV RL 24 RX7 yX7_has wsX7_has) := goodIn_app (goodIn_of _ (by decide +kernel)) ggL_has_X7_has
theorem dL_has_0 : decode cL_has 0 = .ok (.aload_n 2, 1) := by decide +kernel
theorem dL_has_1 : decode cL_has 1 = .ok (.iconst 0, 1) := by decide +kernel
theorem dL_has_2 : decode cL_has 2 = .ok (.aload_n 0, 1) := by decide +kernel
theorem dL_has_3 : decode cL_has 3 = .ok (.iload_n 1, 1) := by decide +kernel
theorem dL_has_4 : decode cL_has 4 = .ok (.invokevirtual 24, 3) := by decide +kernel
theorem dL_has_7 : decode cL_has 7 = .ok (.ifCond .eq 7, 3) := by decide +kernel
theorem dL_has_10 : decode cL_has 10 = .ok (.lconst 1, 1) := by decide +kernel
theorem dL_has_11 : decode cL_has 11 = .ok (.goto 4, 3) := by decide +kernel
theorem dL_has_14 : decode cL_has 14 = .ok (.lconst 0, 1) := by decide +kernel
theorem dL_has_15 : decode cL_has 15 = .ok (.lastore, 1) := by decide +kernel
theorem dL_has_16 : decode cL_has 16 = .ok (.goto 6, 3) := by decide +kernel
theorem dL_has_19 : decode cL_has 19 = .ok (.astore_n 3, 1) := by decide +kernel
theorem dL_has_20 : decode cL_has 20 = .ok (.iconst 1, 1) := by decide +kernel
theorem dL_has_21 : decode cL_has 21 = .ok (.ireturn, 1) := by decide +kernel
theorem dL_has_22 : decode cL_has 22 = .ok (.iconst 0, 1) := by decide +kernel
theorem dL_has_23 : decode cL_has 23 = .ok (.ireturn, 1) := by decide +kernel
set_option maxRecDepth 20000 in
theorem ggL_keyAt_X7_keyAt : GoodIn wsL_keyAt wsX7_keyAt := goodIn_ca (goodIn_r _ [6, 7, 8, 9, 5, 10, 11, 12, 13, 14, 15, 16, 17, 18, 19, 20, 21, 22, 23, 24, 25, 26, 27, 28, 29, 30, 31, 32] (by decide +kernel) (by decide +kernel)) (goodIn_sub (fun _ h => List.mem_cons_of_mem _ (List.mem_append_right _ h)) (by decide +kernel))
set_option maxRecDepth 20000 in
theorem gL_keyAt_X7_keyAt : GoodIn wsL_keyAt (wsV RL 28 RX7 yX7_keyAt wsX7_keyAt) := goodIn_app (goodIn_of _ (by decide +kernel)) ggL_keyAt_X7_keyAt
theorem dL_keyAt_0 : decode cL_keyAt 0 = .ok (.aload_n 2, 1) := by decide +kernel
theorem dL_keyAt_1 : decode cL_keyAt 1 = .ok (.iconst 0, 1) := by decide +kernel
theorem dL_keyAt_2 : decode cL_keyAt 2 = .ok (.aload_n 0, 1) := by decide +kernel
theorem dL_keyAt_3 : decode cL_keyAt 3 = .ok (.iload_n 1, 1) := by decide +kernel
theorem dL_keyAt_4 : decode cL_keyAt 4 = .ok (.invokevirtual 28, 3) := by decide +kernel
theorem dL_keyAt_7 : decode cL_keyAt 7 = .ok (.i2l, 1) := by decide +kernel
theorem dL_keyAt_8 : decode cL_keyAt 8 = .ok (.lastore, 1) := by decide +kernel
theorem dL_keyAt_9 : decode cL_keyAt 9 = .ok (.goto 6, 3) := by decide +kernel
theorem dL_keyAt_12 : decode cL_keyAt 12 = .ok (.astore_n 3, 1) := by decide +kernel
theorem dL_keyAt_13 : decode cL_keyAt 13 = .ok (.iconst 1, 1) := by decide +kernel
theorem dL_keyAt_14 : decode cL_keyAt 14 = .ok (.ireturn, 1) := by decide +kernel
theorem dL_keyAt_15 : decode cL_keyAt 15 = .ok (.iconst 0, 1) := by decide +kernel
theorem dL_keyAt_16 : decode cL_keyAt 16 = .ok (.ireturn, 1) := by decide +kernel
set_option maxRecDepth 20000 in
theorem ggL_build_X7_build : GoodIn wsL_build wsX7_build := goodIn_ca (goodIn_ca (goodIn_r _ [7, 8, 9, 10, 11, 12, 13, 14, 15, 16, 17, 18, 19, 6, 20, 21, 22, 23, 24, 25, 26, 27, 28, 29, 30, 31, 32, 33, 34, 35, 36, 37, 38, 39, 40, 41, 42, 43, 44, 45, 46, 47, 48, 49, 50, 51, 52, 53, 54, 55, 56, 57, 58, 59, 60, 61, 62, 63, 64, 65, 66, 67, 68, 69, 70, 71, 72, 73, 74, 75, 76, 77, 78, 79, 80, 81, 82, 83, 84, 85, 86, 87, 88, 89, 90, 91, 92, 93, 94, 95, 96, 97, 98, 99, 100, 101, 102, 103, 104, 105, 106, 107, 108, 109, 110, 111, 112, 113, 114, 115, 116, 117, 118, 119, 120, 121, 122, 123, 124, 125, 126, 127, 128, 129, 130, 131, 132, 133, 134, 135, 136, 137, 138, 139, 140, 141, 142, 143, 144, 145, 146, 147, 148, 149, 150, 151, 152, 153, 154, 155, 156, 157, 158, 159, 160, 161, 162, 163, 164, 165, 166, 167, 168, 169, 170, 171, 172, 173, 174, 175, 176, 177, 178, 179, 180, 181, 182, 183, 184, 185, 186, 187, 188, 189, 190, 191, 192, 193, 194, 195, 196, 197, 198, 199, 200, 201, 202, 203, 204, 205, 206, 207, 208, 209, 210, 211, 212, 213, 214, 215, 216, 217, 218, 219, 220, 221, 222, 223, 224, 225, 226, 227, 228, 229, 230, 231, 232, 233, 234, 235, 236, 237, 238, 239, 240, 241, 242, 243, 244, 245, 246, 247, 248, 249, 250, 251, 252, 253, 254, 255, 256] (by decide +kernel) (by decide +kernel)) (goodIn_sub (fun _ h => List.mem_cons_of_mem _ (List.mem_append_left _ (List.mem_append_right _ h))) (by decide +kernel))) (goodIn_sub (fun _ h => List.mem_cons_of_mem _ (List.mem_append_right _ h)) (by decide +kernel))
set_option maxRecDepth 20000 in
theorem gL_build_X7_build : GoodIn wsL_build (wsV RL 33 RX7 yX7_build wsX7_build) := goodIn_app (goodIn_of _ (by decide +kernel)) ggL_build_X7_build
theorem dL_build_0 : decode cL_build 0 = .ok (.aload_n 3, 1) := by decide +kernel
theorem dL_build_1 : decode cL_build 1 = .ok (.iconst 0, 1) := by decide +kernel
theorem dL_build_2 : decode cL_build 2 = .ok (.aload_n 0, 1) := by decide +kernel
theorem dL_build_3 : decode cL_build 3 = .ok (.iload_n 1, 1) := by decide +kernel
theorem dL_build_4 : decode cL_build 4 = .ok (.iload_n 2, 1) := by decide +kernel
theorem dL_build_5 : decode cL_build 5 = .ok (.invokevirtual 33, 3) := by decide +kernel
theorem dL_build_8 : decode cL_build 8 = .ok (.i2l, 1) := by decide +kernel
theorem dL_build_9 : decode cL_build 9 = .ok (.lastore, 1) := by decide +kernel
theorem dL_build_10 : decode cL_build 10 = .ok (.goto 11, 3) := by decide +kernel
theorem dL_build_13 : decode cL_build 13 = .ok (.astore 4, 2) := by decide +kernel
theorem dL_build_15 : decode cL_build 15 = .ok (.iconst 1, 1) := by decide +kernel
theorem dL_build_16 : decode cL_build 16 = .ok (.ireturn, 1) := by decide +kernel
theorem dL_build_17 : decode cL_build 17 = .ok (.astore 4, 2) := by decide +kernel
theorem dL_build_19 : decode cL_build 19 = .ok (.iconst 2, 1) := by decide +kernel
theorem dL_build_20 : decode cL_build 20 = .ok (.ireturn, 1) := by decide +kernel
theorem dL_build_21 : decode cL_build 21 = .ok (.iconst 0, 1) := by decide +kernel
theorem dL_build_22 : decode cL_build 22 = .ok (.ireturn, 1) := by decide +kernel
set_option maxRecDepth 20000 in
theorem ggL_reopen_X7_reopen : GoodIn wsL_reopen wsX7_reopen := goodIn_ca (goodIn_r _ [6, 7, 8, 9, 10, 5, 11, 12, 13, 14, 15, 16, 17, 18, 19, 20] (by decide +kernel) (by decide +kernel)) (goodIn_sub (fun _ h => List.mem_cons_of_mem _ (List.mem_append_right _ h)) (by decide +kernel))
set_option maxRecDepth 20000 in
theorem gL_reopen_X7_reopen : GoodIn wsL_reopen (wsV RL 37 RX7 yX7_reopen wsX7_reopen) := goodIn_app (goodIn_of _ (by decide +kernel)) ggL_reopen_X7_reopen
theorem dL_reopen_0 : decode cL_reopen 0 = .ok (.aload_n 0, 1) := by decide +kernel
theorem dL_reopen_1 : decode cL_reopen 1 = .ok (.invokevirtual 37, 3) := by decide +kernel
theorem dL_reopen_4 : decode cL_reopen 4 = .ok (.goto 6, 3) := by decide +kernel
theorem dL_reopen_7 : decode cL_reopen 7 = .ok (.astore_n 1, 1) := by decide +kernel
theorem dL_reopen_8 : decode cL_reopen 8 = .ok (.iconst 1, 1) := by decide +kernel
theorem dL_reopen_9 : decode cL_reopen 9 = .ok (.ireturn, 1) := by decide +kernel
theorem dL_reopen_10 : decode cL_reopen 10 = .ok (.iconst 0, 1) := by decide +kernel
theorem dL_reopen_11 : decode cL_reopen 11 = .ok (.ireturn, 1) := by decide +kernel
set_option maxRecDepth 20000 in
theorem ggL_number_X7_number : GoodIn wsL_number wsX7_number := goodIn_ca (goodIn_ca (goodIn_r _ [7, 8, 9, 10, 6, 11, 12, 13, 14, 15, 16, 17, 18, 19, 20, 21, 22, 23, 24, 25, 26, 27, 28, 29, 30, 31, 32, 33, 34, 35, 36, 37, 38, 39, 40, 41, 42, 43, 44, 45, 46, 47, 48, 49, 50, 51, 52, 53, 54, 55, 56, 57, 58, 59, 60, 61, 62, 63, 64, 65, 66, 67, 68, 69, 70, 71, 72] (by decide +kernel) (by decide +kernel)) (goodIn_sub (fun _ h => List.mem_cons_of_mem _ (List.mem_append_left _ (List.mem_append_right _ h))) (by decide +kernel))) (goodIn_sub (fun _ h => List.mem_cons_of_mem _ (List.mem_append_right _ h)) (by decide +kernel))
set_option maxRecDepth 20000 in
theorem gL_number_X7_number : GoodIn wsL_number (wsV RL 40 RX7 yX7_number wsX7_number) := goodIn_app (goodIn_of _ (by decide +kernel)) ggL_number_X7_number
theorem dL_number_0 : decode cL_number 0 = .ok (.aload_n 2, 1) := by decide +kernel
theorem dL_number_1 : decode cL_number 1 = .ok (.iconst 0, 1) := by decide +kernel
theorem dL_number_2 : decode cL_number 2 = .ok (.aload_n 0, 1) := by decide +kernel
theorem dL_number_3 : decode cL_number 3 = .ok (.iload_n 1, 1) := by decide +kernel
theorem dL_number_4 : decode cL_number 4 = .ok (.invokevirtual 40, 3) := by decide +kernel
theorem dL_number_7 : decode cL_number 7 = .ok (.i2l, 1) := by decide +kernel
theorem dL_number_8 : decode cL_number 8 = .ok (.lastore, 1) := by decide +kernel
theorem dL_number_9 : decode cL_number 9 = .ok (.goto 9, 3) := by decide +kernel
theorem dL_number_12 : decode cL_number 12 = .ok (.astore_n 3, 1) := by decide +kernel
theorem dL_number_13 : decode cL_number 13 = .ok (.iconst 1, 1) := by decide +kernel
theorem dL_number_14 : decode cL_number 14 = .ok (.ireturn, 1) := by decide +kernel
theorem dL_number_15 : decode cL_number 15 = .ok (.astore_n 3, 1) := by decide +kernel
theorem dL_number_16 : decode cL_number 16 = .ok (.iconst 2, 1) := by decide +kernel
theorem dL_number_17 : decode cL_number 17 = .ok (.ireturn, 1) := by decide +kernel
theorem dL_number_18 : decode cL_number 18 = .ok (.iconst 0, 1) := by decide +kernel
theorem dL_number_19 : decode cL_number 19 = .ok (.ireturn, 1) := by decide +kernel
set_option maxRecDepth 20000 in
theorem ggL_find_X7_find : GoodIn wsL_find wsX7_find := goodIn_ca (goodIn_ca (goodIn_r _ [7, 8, 9, 6, 10, 11, 12, 13, 14, 15, 16, 17, 18, 19, 20, 21, 22, 23, 24, 25, 26, 27, 28, 29, 30, 31, 32, 33, 34, 35, 36, 37, 38, 39, 40, 41, 42, 43, 44, 45, 46, 47, 48, 49, 50, 51, 52, 53, 54, 55, 56, 57, 58, 59, 60, 61, 62, 63, 64, 65, 66, 67, 68, 69, 70, 71, 72, 73, 74, 75, 76, 77, 78, 79, 80, 81, 82, 83] (by decide +kernel) (by decide +kernel)) (goodIn_sub (fun _ h => List.mem_cons_of_mem _ (List.mem_append_left _ (List.mem_append_right _ h))) (by decide +kernel))) (goodIn_sub (fun _ h => List.mem_cons_of_mem _ (List.mem_append_right _ h)) (by decide +kernel))
set_option maxRecDepth 20000 in
theorem gL_find_X7_find : GoodIn wsL_find (wsV RL 43 RX7 yX7_find wsX7_find) := goodIn_app (goodIn_of _ (by decide +kernel)) ggL_find_X7_find
theorem dL_find_0 : decode cL_find 0 = .ok (.aload_n 2, 1) := by decide +kernel
theorem dL_find_1 : decode cL_find 1 = .ok (.iconst 0, 1) := by decide +kernel
theorem dL_find_2 : decode cL_find 2 = .ok (.aload_n 0, 1) := by decide +kernel
theorem dL_find_3 : decode cL_find 3 = .ok (.iload_n 1, 1) := by decide +kernel
theorem dL_find_4 : decode cL_find 4 = .ok (.invokevirtual 43, 3) := by decide +kernel
theorem dL_find_7 : decode cL_find 7 = .ok (.i2l, 1) := by decide +kernel
theorem dL_find_8 : decode cL_find 8 = .ok (.lastore, 1) := by decide +kernel
theorem dL_find_9 : decode cL_find 9 = .ok (.goto 9, 3) := by decide +kernel
theorem dL_find_12 : decode cL_find 12 = .ok (.astore_n 3, 1) := by decide +kernel
theorem dL_find_13 : decode cL_find 13 = .ok (.iconst 1, 1) := by decide +kernel
theorem dL_find_14 : decode cL_find 14 = .ok (.ireturn, 1) := by decide +kernel
theorem dL_find_15 : decode cL_find 15 = .ok (.astore_n 3, 1) := by decide +kernel
theorem dL_find_16 : decode cL_find 16 = .ok (.iconst 2, 1) := by decide +kernel
theorem dL_find_17 : decode cL_find 17 = .ok (.ireturn, 1) := by decide +kernel
theorem dL_find_18 : decode cL_find 18 = .ok (.iconst 0, 1) := by decide +kernel
theorem dL_find_19 : decode cL_find 19 = .ok (.ireturn, 1) := by decide +kernel
set_option maxRecDepth 20000 in
theorem ggL_strangers_X7_strangers : GoodIn wsL_strangers wsX7_strangers := goodIn_ca (goodIn_ca (goodIn_r _ [7, 8, 9, 10, 11, 12, 6, 13, 14, 15, 16, 17, 18, 19, 20, 21, 22, 23, 24, 25, 26, 27, 28, 29, 30, 31, 32, 33, 34, 35, 36, 37, 38, 39, 40, 41, 42, 43, 44, 45, 46, 47, 48, 49, 50, 51, 52, 53, 54, 55, 56, 57, 58, 59, 60, 61, 62, 63, 64, 65, 66, 67, 68, 69, 70, 71, 72, 73, 74, 75, 76, 77, 78, 79, 80, 81, 82, 83, 84, 85, 86, 87, 88, 89, 90, 91, 92, 93, 94, 95, 96] (by decide +kernel) (by decide +kernel)) (goodIn_sub (fun _ h => List.mem_cons_of_mem _ (List.mem_append_left _ (List.mem_append_right _ h))) (by decide +kernel))) (goodIn_sub (fun _ h => List.mem_cons_of_mem _ (List.mem_append_right _ h)) (by decide +kernel))
set_option maxRecDepth 20000 in
theorem gL_strangers_X7_strangers : GoodIn wsL_strangers (wsV RL 46 RX7 yX7_strangers wsX7_strangers) := goodIn_app (goodIn_of _ (by decide +kernel)) ggL_strangers_X7_strangers
theorem dL_strangers_0 : decode cL_strangers 0 = .ok (.aload_n 3, 1) := by decide +kernel
theorem dL_strangers_1 : decode cL_strangers 1 = .ok (.iconst 0, 1) := by decide +kernel
theorem dL_strangers_2 : decode cL_strangers 2 = .ok (.aload_n 0, 1) := by decide +kernel
theorem dL_strangers_3 : decode cL_strangers 3 = .ok (.iload_n 1, 1) := by decide +kernel
theorem dL_strangers_4 : decode cL_strangers 4 = .ok (.iload_n 2, 1) := by decide +kernel
theorem dL_strangers_5 : decode cL_strangers 5 = .ok (.invokevirtual 46, 3) := by decide +kernel
theorem dL_strangers_8 : decode cL_strangers 8 = .ok (.i2l, 1) := by decide +kernel
theorem dL_strangers_9 : decode cL_strangers 9 = .ok (.lastore, 1) := by decide +kernel
theorem dL_strangers_10 : decode cL_strangers 10 = .ok (.goto 11, 3) := by decide +kernel
theorem dL_strangers_13 : decode cL_strangers 13 = .ok (.astore 4, 2) := by decide +kernel
theorem dL_strangers_15 : decode cL_strangers 15 = .ok (.iconst 1, 1) := by decide +kernel
theorem dL_strangers_16 : decode cL_strangers 16 = .ok (.ireturn, 1) := by decide +kernel
theorem dL_strangers_17 : decode cL_strangers 17 = .ok (.astore 4, 2) := by decide +kernel
theorem dL_strangers_19 : decode cL_strangers 19 = .ok (.iconst 2, 1) := by decide +kernel
theorem dL_strangers_20 : decode cL_strangers 20 = .ok (.ireturn, 1) := by decide +kernel
theorem dL_strangers_21 : decode cL_strangers 21 = .ok (.iconst 0, 1) := by decide +kernel
theorem dL_strangers_22 : decode cL_strangers 22 = .ok (.ireturn, 1) := by decide +kernel
set_option maxRecDepth 20000 in
theorem ggL_keyOf_X7_keyOf : GoodIn wsL_keyOf wsX7_keyOf := goodIn_ca (goodIn_ca (goodIn_r _ [7, 8, 9, 10, 11, 6, 12, 13, 14, 15, 16, 17, 18, 19, 20, 21, 22, 23, 24, 25, 26, 27, 28, 29, 30, 31, 32, 33, 34, 35, 36, 37, 38, 39, 40, 41, 42, 43, 44, 45, 46, 47, 48, 49, 50, 51, 52, 53, 54] (by decide +kernel) (by decide +kernel)) (goodIn_sub (fun _ h => List.mem_cons_of_mem _ (List.mem_append_left _ (List.mem_append_right _ h))) (by decide +kernel))) (goodIn_sub (fun _ h => List.mem_cons_of_mem _ (List.mem_append_right _ h)) (by decide +kernel))
set_option maxRecDepth 20000 in
theorem gL_keyOf_X7_keyOf : GoodIn wsL_keyOf (wsV RL 49 RX7 yX7_keyOf wsX7_keyOf) := goodIn_app (goodIn_of _ (by decide +kernel)) ggL_keyOf_X7_keyOf
theorem dL_keyOf_0 : decode cL_keyOf 0 = .ok (.aload_n 2, 1) := by decide +kernel
theorem dL_keyOf_1 : decode cL_keyOf 1 = .ok (.iconst 0, 1) := by decide +kernel
theorem dL_keyOf_2 : decode cL_keyOf 2 = .ok (.aload_n 0, 1) := by decide +kernel
theorem dL_keyOf_3 : decode cL_keyOf 3 = .ok (.iload_n 1, 1) := by decide +kernel
theorem dL_keyOf_4 : decode cL_keyOf 4 = .ok (.invokevirtual 49, 3) := by decide +kernel
theorem dL_keyOf_7 : decode cL_keyOf 7 = .ok (.i2l, 1) := by decide +kernel
theorem dL_keyOf_8 : decode cL_keyOf 8 = .ok (.lastore, 1) := by decide +kernel
theorem dL_keyOf_9 : decode cL_keyOf 9 = .ok (.goto 9, 3) := by decide +kernel
theorem dL_keyOf_12 : decode cL_keyOf 12 = .ok (.astore_n 3, 1) := by decide +kernel
theorem dL_keyOf_13 : decode cL_keyOf 13 = .ok (.iconst 1, 1) := by decide +kernel
theorem dL_keyOf_14 : decode cL_keyOf 14 = .ok (.ireturn, 1) := by decide +kernel
theorem dL_keyOf_15 : decode cL_keyOf 15 = .ok (.astore_n 3, 1) := by decide +kernel
theorem dL_keyOf_16 : decode cL_keyOf 16 = .ok (.iconst 2, 1) := by decide +kernel
theorem dL_keyOf_17 : decode cL_keyOf 17 = .ok (.ireturn, 1) := by decide +kernel
theorem dL_keyOf_18 : decode cL_keyOf 18 = .ok (.iconst 0, 1) := by decide +kernel
theorem dL_keyOf_19 : decode cL_keyOf 19 = .ok (.ireturn, 1) := by decide +kernel
set_option maxRecDepth 20000 in
theorem ggL_fingerprint_X7_fingerprint : GoodIn wsL_fingerprint wsX7_fingerprint := goodIn_ca (goodIn_ca (goodIn_r _ [7, 8, 9, 10, 11, 12, 6, 13, 14, 15, 16, 17, 18, 19, 20, 21, 22, 23, 24, 25, 26, 27, 28, 29, 30, 31, 32, 33, 34, 35, 36] (by decide +kernel) (by decide +kernel)) (goodIn_sub (fun _ h => List.mem_cons_of_mem _ (List.mem_append_left _ (List.mem_append_right _ h))) (by decide +kernel))) (goodIn_sub (fun _ h => List.mem_cons_of_mem _ (List.mem_append_right _ h)) (by decide +kernel))
set_option maxRecDepth 20000 in
theorem gL_fingerprint_X7_fingerprint : GoodIn wsL_fingerprint (wsV RL 52 RX7 yX7_fingerprint wsX7_fingerprint) := goodIn_app (goodIn_of _ (by decide +kernel)) ggL_fingerprint_X7_fingerprint
theorem dL_fingerprint_0 : decode cL_fingerprint 0 = .ok (.aload_n 2, 1) := by decide +kernel
theorem dL_fingerprint_1 : decode cL_fingerprint 1 = .ok (.iconst 0, 1) := by decide +kernel
theorem dL_fingerprint_2 : decode cL_fingerprint 2 = .ok (.aload_n 0, 1) := by decide +kernel
theorem dL_fingerprint_3 : decode cL_fingerprint 3 = .ok (.iload_n 1, 1) := by decide +kernel
theorem dL_fingerprint_4 : decode cL_fingerprint 4 = .ok (.invokevirtual 52, 3) := by decide +kernel
theorem dL_fingerprint_7 : decode cL_fingerprint 7 = .ok (.i2l, 1) := by decide +kernel
theorem dL_fingerprint_8 : decode cL_fingerprint 8 = .ok (.lastore, 1) := by decide +kernel
theorem dL_fingerprint_9 : decode cL_fingerprint 9 = .ok (.goto 9, 3) := by decide +kernel
theorem dL_fingerprint_12 : decode cL_fingerprint 12 = .ok (.astore_n 3, 1) := by decide +kernel
theorem dL_fingerprint_13 : decode cL_fingerprint 13 = .ok (.iconst 1, 1) := by decide +kernel
theorem dL_fingerprint_14 : decode cL_fingerprint 14 = .ok (.ireturn, 1) := by decide +kernel
theorem dL_fingerprint_15 : decode cL_fingerprint 15 = .ok (.astore_n 3, 1) := by decide +kernel
theorem dL_fingerprint_16 : decode cL_fingerprint 16 = .ok (.iconst 2, 1) := by decide +kernel
theorem dL_fingerprint_17 : decode cL_fingerprint 17 = .ok (.ireturn, 1) := by decide +kernel
theorem dL_fingerprint_18 : decode cL_fingerprint 18 = .ok (.iconst 0, 1) := by decide +kernel
theorem dL_fingerprint_19 : decode cL_fingerprint 19 = .ok (.ireturn, 1) := by decide +kernel
set_option maxRecDepth 20000 in
theorem ggL_seed_X7_seed : GoodIn wsL_seed wsX7_seed := goodIn_ca (goodIn_r _ [6, 7, 8, 9, 10, 5, 11, 12, 13, 14, 15, 16, 17, 18, 19, 20, 21, 22, 23, 24, 25, 26, 27, 28, 29, 30] (by decide +kernel) (by decide +kernel)) (goodIn_sub (fun _ h => List.mem_cons_of_mem _ (List.mem_append_right _ h)) (by decide +kernel))
set_option maxRecDepth 20000 in
theorem gL_seed_X7_seed : GoodIn wsL_seed (wsV RL 55 RX7 yX7_seed wsX7_seed) := goodIn_app (goodIn_of _ (by decide +kernel)) ggL_seed_X7_seed
theorem dL_seed_0 : decode cL_seed 0 = .ok (.aload_n 1, 1) := by decide +kernel
theorem dL_seed_1 : decode cL_seed 1 = .ok (.iconst 0, 1) := by decide +kernel
theorem dL_seed_2 : decode cL_seed 2 = .ok (.aload_n 0, 1) := by decide +kernel
theorem dL_seed_3 : decode cL_seed 3 = .ok (.invokevirtual 55, 3) := by decide +kernel
theorem dL_seed_6 : decode cL_seed 6 = .ok (.i2l, 1) := by decide +kernel
theorem dL_seed_7 : decode cL_seed 7 = .ok (.lastore, 1) := by decide +kernel
theorem dL_seed_8 : decode cL_seed 8 = .ok (.goto 6, 3) := by decide +kernel
theorem dL_seed_11 : decode cL_seed 11 = .ok (.astore_n 2, 1) := by decide +kernel
theorem dL_seed_12 : decode cL_seed 12 = .ok (.iconst 1, 1) := by decide +kernel
theorem dL_seed_13 : decode cL_seed 13 = .ok (.ireturn, 1) := by decide +kernel
theorem dL_seed_14 : decode cL_seed 14 = .ok (.iconst 0, 1) := by decide +kernel
theorem dL_seed_15 : decode cL_seed 15 = .ok (.ireturn, 1) := by decide +kernel
set_option maxRecDepth 20000 in
theorem ggL_buckets_X7_buckets : GoodIn wsL_buckets wsX7_buckets := goodIn_ca (goodIn_r _ [6, 7, 8, 9, 10, 5, 11, 12, 13, 14, 15, 16, 17, 18, 19, 20, 21, 22, 23, 24, 25, 26, 27, 28, 29, 30] (by decide +kernel) (by decide +kernel)) (goodIn_sub (fun _ h => List.mem_cons_of_mem _ (List.mem_append_right _ h)) (by decide +kernel))
set_option maxRecDepth 20000 in
theorem gL_buckets_X7_buckets : GoodIn wsL_buckets (wsV RL 59 RX7 yX7_buckets wsX7_buckets) := goodIn_app (goodIn_of _ (by decide +kernel)) ggL_buckets_X7_buckets
theorem dL_buckets_0 : decode cL_buckets 0 = .ok (.aload_n 1, 1) := by decide +kernel
theorem dL_buckets_1 : decode cL_buckets 1 = .ok (.iconst 0, 1) := by decide +kernel
theorem dL_buckets_2 : decode cL_buckets 2 = .ok (.aload_n 0, 1) := by decide +kernel
theorem dL_buckets_3 : decode cL_buckets 3 = .ok (.invokevirtual 59, 3) := by decide +kernel
theorem dL_buckets_6 : decode cL_buckets 6 = .ok (.i2l, 1) := by decide +kernel
theorem dL_buckets_7 : decode cL_buckets 7 = .ok (.lastore, 1) := by decide +kernel
theorem dL_buckets_8 : decode cL_buckets 8 = .ok (.goto 6, 3) := by decide +kernel
theorem dL_buckets_11 : decode cL_buckets 11 = .ok (.astore_n 2, 1) := by decide +kernel
theorem dL_buckets_12 : decode cL_buckets 12 = .ok (.iconst 1, 1) := by decide +kernel
theorem dL_buckets_13 : decode cL_buckets 13 = .ok (.ireturn, 1) := by decide +kernel
theorem dL_buckets_14 : decode cL_buckets 14 = .ok (.iconst 0, 1) := by decide +kernel
theorem dL_buckets_15 : decode cL_buckets 15 = .ok (.ireturn, 1) := by decide +kernel
set_option maxRecDepth 20000 in
theorem ggL_inBucket_X7_inBucket : GoodIn wsL_inBucket wsX7_inBucket := goodIn_ca (goodIn_ca (goodIn_r _ [7, 8, 9, 10, 11, 6, 12, 13, 14, 15, 16, 17, 18, 19, 20, 21, 22, 23, 24, 25, 26, 27, 28, 29, 30, 31, 32, 33, 34, 35, 36, 37, 38, 39, 40, 41, 42, 43, 44, 45, 46, 47, 48, 49, 50, 51, 52, 53, 54, 55, 56, 57, 58, 59, 60] (by decide +kernel) (by decide +kernel)) (goodIn_sub (fun _ h => List.mem_cons_of_mem _ (List.mem_append_left _ (List.mem_append_right _ h))) (by decide +kernel))) (goodIn_sub (fun _ h => List.mem_cons_of_mem _ (List.mem_append_right _ h)) (by decide +kernel))
set_option maxRecDepth 20000 in
theorem gL_inBucket_X7_inBucket : GoodIn wsL_inBucket (wsV RL 62 RX7 yX7_inBucket wsX7_inBucket) := goodIn_app (goodIn_of _ (by decide +kernel)) ggL_inBucket_X7_inBucket
theorem dL_inBucket_0 : decode cL_inBucket 0 = .ok (.aload_n 2, 1) := by decide +kernel
theorem dL_inBucket_1 : decode cL_inBucket 1 = .ok (.iconst 0, 1) := by decide +kernel
theorem dL_inBucket_2 : decode cL_inBucket 2 = .ok (.aload_n 0, 1) := by decide +kernel
theorem dL_inBucket_3 : decode cL_inBucket 3 = .ok (.iload_n 1, 1) := by decide +kernel
theorem dL_inBucket_4 : decode cL_inBucket 4 = .ok (.invokevirtual 62, 3) := by decide +kernel
theorem dL_inBucket_7 : decode cL_inBucket 7 = .ok (.i2l, 1) := by decide +kernel
theorem dL_inBucket_8 : decode cL_inBucket 8 = .ok (.lastore, 1) := by decide +kernel
theorem dL_inBucket_9 : decode cL_inBucket 9 = .ok (.goto 9, 3) := by decide +kernel
theorem dL_inBucket_12 : decode cL_inBucket 12 = .ok (.astore_n 3, 1) := by decide +kernel
theorem dL_inBucket_13 : decode cL_inBucket 13 = .ok (.iconst 1, 1) := by decide +kernel
theorem dL_inBucket_14 : decode cL_inBucket 14 = .ok (.ireturn, 1) := by decide +kernel
theorem dL_inBucket_15 : decode cL_inBucket 15 = .ok (.astore_n 3, 1) := by decide +kernel
theorem dL_inBucket_16 : decode cL_inBucket 16 = .ok (.iconst 2, 1) := by decide +kernel
theorem dL_inBucket_17 : decode cL_inBucket 17 = .ok (.ireturn, 1) := by decide +kernel
theorem dL_inBucket_18 : decode cL_inBucket 18 = .ok (.iconst 0, 1) := by decide +kernel
theorem dL_inBucket_19 : decode cL_inBucket 19 = .ok (.ireturn, 1) := by decide +kernel
set_option maxRecDepth 20000 in
theorem ggL_displacement_X7_displacement : GoodIn wsL_displacement wsX7_displacement := goodIn_ca (goodIn_ca (goodIn_r _ [7, 8, 9, 10, 11, 6, 12, 13, 14, 15, 16, 17, 18, 19, 20, 21, 22, 23, 24, 25, 26, 27, 28, 29, 30, 31, 32, 33, 34, 35, 36, 37, 38, 39, 40, 41, 42] (by decide +kernel) (by decide +kernel)) (goodIn_sub (fun _ h => List.mem_cons_of_mem _ (List.mem_append_left _ (List.mem_append_right _ h))) (by decide +kernel))) (goodIn_sub (fun _ h => List.mem_cons_of_mem _ (List.mem_append_right _ h)) (by decide +kernel))
set_option maxRecDepth 20000 in
theorem gL_displacement_X7_displacement : GoodIn wsL_displacement (wsV RL 65 RX7 yX7_displacement wsX7_displacement) := goodIn_app (goodIn_of _ (by decide +kernel)) ggL_displacement_X7_displacement
theorem dL_displacement_0 : decode cL_displacement 0 = .ok (.aload_n 2, 1) := by decide +kernel
theorem dL_displacement_1 : decode cL_displacement 1 = .ok (.iconst 0, 1) := by decide +kernel
theorem dL_displacement_2 : decode cL_displacement 2 = .ok (.aload_n 0, 1) := by decide +kernel
theorem dL_displacement_3 : decode cL_displacement 3 = .ok (.iload_n 1, 1) := by decide +kernel
theorem dL_displacement_4 : decode cL_displacement 4 = .ok (.invokevirtual 65, 3) := by decide +kernel
theorem dL_displacement_7 : decode cL_displacement 7 = .ok (.i2l, 1) := by decide +kernel
theorem dL_displacement_8 : decode cL_displacement 8 = .ok (.lastore, 1) := by decide +kernel
theorem dL_displacement_9 : decode cL_displacement 9 = .ok (.goto 9, 3) := by decide +kernel
theorem dL_displacement_12 : decode cL_displacement 12 = .ok (.astore_n 3, 1) := by decide +kernel
theorem dL_displacement_13 : decode cL_displacement 13 = .ok (.iconst 1, 1) := by decide +kernel
theorem dL_displacement_14 : decode cL_displacement 14 = .ok (.ireturn, 1) := by decide +kernel
theorem dL_displacement_15 : decode cL_displacement 15 = .ok (.astore_n 3, 1) := by decide +kernel
theorem dL_displacement_16 : decode cL_displacement 16 = .ok (.iconst 2, 1) := by decide +kernel
theorem dL_displacement_17 : decode cL_displacement 17 = .ok (.ireturn, 1) := by decide +kernel
theorem dL_displacement_18 : decode cL_displacement 18 = .ok (.iconst 0, 1) := by decide +kernel
theorem dL_displacement_19 : decode cL_displacement 19 = .ok (.ireturn, 1) := by decide +kernel
set_option maxRecDepth 20000 in
theorem ggL_width_X7_width : GoodIn wsL_width wsX7_width := goodIn_ca (goodIn_r _ [6, 7, 8, 9, 10, 5, 11, 12, 13, 14, 15, 16, 17, 18, 19, 20, 21, 22, 23, 24] (by decide +kernel) (by decide +kernel)) (goodIn_sub (fun _ h => List.mem_cons_of_mem _ (List.mem_append_right _ h)) (by decide +kernel))
set_option maxRecDepth 20000 in
theorem gL_width_X7_width : GoodIn wsL_width (wsV RL 68 RX7 yX7_width wsX7_width) := goodIn_app (goodIn_of _ (by decide +kernel)) ggL_width_X7_width
theorem dL_width_0 : decode cL_width 0 = .ok (.aload_n 1, 1) := by decide +kernel
theorem dL_width_1 : decode cL_width 1 = .ok (.iconst 0, 1) := by decide +kernel
theorem dL_width_2 : decode cL_width 2 = .ok (.aload_n 0, 1) := by decide +kernel
theorem dL_width_3 : decode cL_width 3 = .ok (.invokevirtual 68, 3) := by decide +kernel
theorem dL_width_6 : decode cL_width 6 = .ok (.i2l, 1) := by decide +kernel
theorem dL_width_7 : decode cL_width 7 = .ok (.lastore, 1) := by decide +kernel
theorem dL_width_8 : decode cL_width 8 = .ok (.goto 6, 3) := by decide +kernel
theorem dL_width_11 : decode cL_width 11 = .ok (.astore_n 2, 1) := by decide +kernel
theorem dL_width_12 : decode cL_width 12 = .ok (.iconst 1, 1) := by decide +kernel
theorem dL_width_13 : decode cL_width 13 = .ok (.ireturn, 1) := by decide +kernel
theorem dL_width_14 : decode cL_width 14 = .ok (.iconst 0, 1) := by decide +kernel
theorem dL_width_15 : decode cL_width 15 = .ok (.ireturn, 1) := by decide +kernel
set_option maxRecDepth 20000 in
theorem ggL_word_X7_word : GoodIn wsL_word wsX7_word := goodIn_ca (goodIn_ca (goodIn_r _ [7, 8, 9, 10, 11, 6, 12, 13, 14, 15, 16, 17, 18, 19, 20, 21, 22, 23, 24, 25, 26, 27, 28, 29, 30, 31, 32, 33, 34, 35] (by decide +kernel) (by decide +kernel)) (goodIn_sub (fun _ h => List.mem_cons_of_mem _ (List.mem_append_left _ (List.mem_append_right _ h))) (by decide +kernel))) (goodIn_sub (fun _ h => List.mem_cons_of_mem _ (List.mem_append_right _ h)) (by decide +kernel))
set_option maxRecDepth 20000 in
theorem gL_word_X7_word : GoodIn wsL_word (wsV RL 71 RX7 yX7_word wsX7_word) := goodIn_app (goodIn_of _ (by decide +kernel)) ggL_word_X7_word
theorem dL_word_0 : decode cL_word 0 = .ok (.aload_n 2, 1) := by decide +kernel
theorem dL_word_1 : decode cL_word 1 = .ok (.iconst 0, 1) := by decide +kernel
theorem dL_word_2 : decode cL_word 2 = .ok (.aload_n 0, 1) := by decide +kernel
theorem dL_word_3 : decode cL_word 3 = .ok (.iload_n 1, 1) := by decide +kernel
theorem dL_word_4 : decode cL_word 4 = .ok (.invokevirtual 71, 3) := by decide +kernel
theorem dL_word_7 : decode cL_word 7 = .ok (.lastore, 1) := by decide +kernel
theorem dL_word_8 : decode cL_word 8 = .ok (.goto 9, 3) := by decide +kernel
theorem dL_word_11 : decode cL_word 11 = .ok (.astore_n 3, 1) := by decide +kernel
theorem dL_word_12 : decode cL_word 12 = .ok (.iconst 1, 1) := by decide +kernel
theorem dL_word_13 : decode cL_word 13 = .ok (.ireturn, 1) := by decide +kernel
theorem dL_word_14 : decode cL_word 14 = .ok (.astore_n 3, 1) := by decide +kernel
theorem dL_word_15 : decode cL_word 15 = .ok (.iconst 2, 1) := by decide +kernel
theorem dL_word_16 : decode cL_word 16 = .ok (.ireturn, 1) := by decide +kernel
theorem dL_word_17 : decode cL_word 17 = .ok (.iconst 0, 1) := by decide +kernel
theorem dL_word_18 : decode cL_word 18 = .ok (.ireturn, 1) := by decide +kernel
set_option maxRecDepth 20000 in
theorem ggL_byGraph_X7_byGraph : GoodIn wsL_byGraph wsX7_byGraph := goodIn_ca (goodIn_ca (goodIn_r _ [7, 8, 9, 10, 6, 11, 12, 13, 14, 15, 16, 17, 18, 19, 20, 21, 22, 23, 24, 25, 26, 27, 28, 29, 30, 31, 32, 33, 34, 35, 36, 37, 38, 39, 40, 41, 42, 43, 44, 45, 46, 47, 48, 49, 50, 51, 52, 53, 54, 55, 56, 57, 58, 59, 60, 61, 62, 63, 64, 65, 66] (by decide +kernel) (by decide +kernel)) (goodIn_sub (fun _ h => List.mem_cons_of_mem _ (List.mem_append_left _ (List.mem_append_right _ h))) (by decide +kernel))) (goodIn_sub (fun _ h => List.mem_cons_of_mem _ (List.mem_append_right _ h)) (by decide +kernel))
set_option maxRecDepth 20000 in
theorem gL_byGraph_X7_byGraph : GoodIn wsL_byGraph (wsV RL 75 RX7 yX7_byGraph wsX7_byGraph) := goodIn_app (goodIn_of _ (by decide +kernel)) ggL_byGraph_X7_byGraph
theorem dL_byGraph_0 : decode cL_byGraph 0 = .ok (.aload_n 2, 1) := by decide +kernel
theorem dL_byGraph_1 : decode cL_byGraph 1 = .ok (.iconst 0, 1) := by decide +kernel
theorem dL_byGraph_2 : decode cL_byGraph 2 = .ok (.aload_n 0, 1) := by decide +kernel
theorem dL_byGraph_3 : decode cL_byGraph 3 = .ok (.iload_n 1, 1) := by decide +kernel
theorem dL_byGraph_4 : decode cL_byGraph 4 = .ok (.invokevirtual 75, 3) := by decide +kernel
theorem dL_byGraph_7 : decode cL_byGraph 7 = .ok (.i2l, 1) := by decide +kernel
theorem dL_byGraph_8 : decode cL_byGraph 8 = .ok (.lastore, 1) := by decide +kernel
theorem dL_byGraph_9 : decode cL_byGraph 9 = .ok (.goto 9, 3) := by decide +kernel
theorem dL_byGraph_12 : decode cL_byGraph 12 = .ok (.astore_n 3, 1) := by decide +kernel
theorem dL_byGraph_13 : decode cL_byGraph 13 = .ok (.iconst 1, 1) := by decide +kernel
theorem dL_byGraph_14 : decode cL_byGraph 14 = .ok (.ireturn, 1) := by decide +kernel
theorem dL_byGraph_15 : decode cL_byGraph 15 = .ok (.astore_n 3, 1) := by decide +kernel
theorem dL_byGraph_16 : decode cL_byGraph 16 = .ok (.iconst 2, 1) := by decide +kernel
theorem dL_byGraph_17 : decode cL_byGraph 17 = .ok (.ireturn, 1) := by decide +kernel
theorem dL_byGraph_18 : decode cL_byGraph 18 = .ok (.iconst 0, 1) := by decide +kernel
theorem dL_byGraph_19 : decode cL_byGraph 19 = .ok (.ireturn, 1) := by decide +kernel
set_option maxRecDepth 20000 in
theorem ggL_graphSeed_X7_graphSeed : GoodIn wsL_graphSeed wsX7_graphSeed := goodIn_ca (goodIn_r _ [6, 7, 8, 9, 10, 5, 11, 12, 13, 14, 15, 16, 17, 18, 19, 20, 21, 22, 23, 24, 25, 26, 27, 28, 29] (by decide +kernel) (by decide +kernel)) (goodIn_sub (fun _ h => List.mem_cons_of_mem _ (List.mem_append_right _ h)) (by decide +kernel))
set_option maxRecDepth 20000 in
theorem gL_graphSeed_X7_graphSeed : GoodIn wsL_graphSeed (wsV RL 78 RX7 yX7_graphSeed wsX7_graphSeed) := goodIn_app (goodIn_of _ (by decide +kernel)) ggL_graphSeed_X7_graphSeed
theorem dL_graphSeed_0 : decode cL_graphSeed 0 = .ok (.aload_n 1, 1) := by decide +kernel
theorem dL_graphSeed_1 : decode cL_graphSeed 1 = .ok (.iconst 0, 1) := by decide +kernel
theorem dL_graphSeed_2 : decode cL_graphSeed 2 = .ok (.aload_n 0, 1) := by decide +kernel
theorem dL_graphSeed_3 : decode cL_graphSeed 3 = .ok (.invokevirtual 78, 3) := by decide +kernel
theorem dL_graphSeed_6 : decode cL_graphSeed 6 = .ok (.i2l, 1) := by decide +kernel
theorem dL_graphSeed_7 : decode cL_graphSeed 7 = .ok (.lastore, 1) := by decide +kernel
theorem dL_graphSeed_8 : decode cL_graphSeed 8 = .ok (.goto 6, 3) := by decide +kernel
theorem dL_graphSeed_11 : decode cL_graphSeed 11 = .ok (.astore_n 2, 1) := by decide +kernel
theorem dL_graphSeed_12 : decode cL_graphSeed 12 = .ok (.iconst 1, 1) := by decide +kernel
theorem dL_graphSeed_13 : decode cL_graphSeed 13 = .ok (.ireturn, 1) := by decide +kernel
theorem dL_graphSeed_14 : decode cL_graphSeed 14 = .ok (.iconst 0, 1) := by decide +kernel
theorem dL_graphSeed_15 : decode cL_graphSeed 15 = .ok (.ireturn, 1) := by decide +kernel
set_option maxRecDepth 20000 in
theorem ggL_valueOf_X7_valueOf : GoodIn wsL_valueOf wsX7_valueOf := goodIn_ca (goodIn_ca (goodIn_r _ [7, 8, 9, 10, 11, 6, 12, 13, 14, 15, 16, 17, 18, 19, 20, 21, 22, 23, 24, 25, 26, 27, 28, 29, 30, 31, 32, 33, 34, 35, 36, 37, 38, 39, 40, 41] (by decide +kernel) (by decide +kernel)) (goodIn_sub (fun _ h => List.mem_cons_of_mem _ (List.mem_append_left _ (List.mem_append_right _ h))) (by decide +kernel))) (goodIn_sub (fun _ h => List.mem_cons_of_mem _ (List.mem_append_right _ h)) (by decide +kernel))
set_option maxRecDepth 20000 in
theorem gL_valueOf_X7_valueOf : GoodIn wsL_valueOf (wsV RL 81 RX7 yX7_valueOf wsX7_valueOf) := goodIn_app (goodIn_of _ (by decide +kernel)) ggL_valueOf_X7_valueOf
theorem dL_valueOf_0 : decode cL_valueOf 0 = .ok (.aload_n 2, 1) := by decide +kernel
theorem dL_valueOf_1 : decode cL_valueOf 1 = .ok (.iconst 0, 1) := by decide +kernel
theorem dL_valueOf_2 : decode cL_valueOf 2 = .ok (.aload_n 0, 1) := by decide +kernel
theorem dL_valueOf_3 : decode cL_valueOf 3 = .ok (.iload_n 1, 1) := by decide +kernel
theorem dL_valueOf_4 : decode cL_valueOf 4 = .ok (.invokevirtual 81, 3) := by decide +kernel
theorem dL_valueOf_7 : decode cL_valueOf 7 = .ok (.i2l, 1) := by decide +kernel
theorem dL_valueOf_8 : decode cL_valueOf 8 = .ok (.lastore, 1) := by decide +kernel
theorem dL_valueOf_9 : decode cL_valueOf 9 = .ok (.goto 9, 3) := by decide +kernel
theorem dL_valueOf_12 : decode cL_valueOf 12 = .ok (.astore_n 3, 1) := by decide +kernel
theorem dL_valueOf_13 : decode cL_valueOf 13 = .ok (.iconst 1, 1) := by decide +kernel
theorem dL_valueOf_14 : decode cL_valueOf 14 = .ok (.ireturn, 1) := by decide +kernel
theorem dL_valueOf_15 : decode cL_valueOf 15 = .ok (.astore_n 3, 1) := by decide +kernel
theorem dL_valueOf_16 : decode cL_valueOf 16 = .ok (.iconst 2, 1) := by decide +kernel
theorem dL_valueOf_17 : decode cL_valueOf 17 = .ok (.ireturn, 1) := by decide +kernel
theorem dL_valueOf_18 : decode cL_valueOf 18 = .ok (.iconst 0, 1) := by decide +kernel
theorem dL_valueOf_19 : decode cL_valueOf 19 = .ok (.ireturn, 1) := by decide +kernel
set_option maxRecDepth 20000 in
theorem ggL_law_X7_init : GoodIn wsL_law wsX7_init := goodIn_r _ [9, 10, 11, 12, 13, 14, 15, 16, 17, 18, 19, 20, 21, 22, 23, 24, 25, 26, 27, 28, 29, 30, 31, 32, 33, 34, 35, 36, 37, 38, 39, 40, 41, 42, 43, 44, 45, 46, 47, 48, 49, 50, 51, 52, 53, 54, 55, 56, 57, 58, 59, 60, 61, 62, 63, 64, 65, 66, 67, 68, 69, 6, 70, 71, 72, 73, 74, 75, 76, 77, 78, 79, 726, 727, 699, 700, 701, 702, 703, 704, 705, 728, 729, 730, 731, 732, 733, 734, 735, 736, 737, 738, 739, 740, 741, 742, 743, 744, 745, 746, 747, 748, 749, 750, 751, 752, 753] (by decide +kernel) (by decide +kernel)
set_option maxRecDepth 20000 in
theorem gL_law_X7_init : GoodIn wsL_law (wsX7_init) := ggL_law_X7_init
set_option maxRecDepth 20000 in
theorem ggL_law_X8_init : GoodIn wsL_law wsX8_init := goodIn_r _ [82, 83, 11, 12, 45, 84, 85, 86, 87, 88, 89, 90, 91, 6, 92, 93, 94, 95, 706, 707, 708, 709, 710, 711, 712, 713, 714, 715, 716, 717, 718, 719, 720, 721, 722, 723, 724, 725] (by decide +kernel) (by decide +kernel)
end
section
set_option maxRecDepth 20000 in
theorem gL_law_X8_init : GoodIn wsL_law (wsX8_init) := ggL_law_X8_init
set_option maxRecDepth 20000 in
theorem ggL_law_L_add : GoodIn wsL_law wsL_add := goodIn_ca (goodIn_ca (goodIn_r _ [99, 100, 101, 102, 103, 104, 2, 105, 106, 107, 16, 108, 109, 110, 111, 112, 113, 114, 115, 116, 117, 118, 119, 15, 120, 121, 122, 37, 123, 124, 125, 126, 127, 31, 128, 129, 46, 130, 131, 132, 133, 134, 135, 136, 137, 138, 139, 699, 700, 701, 702, 703, 704, 705, 726, 727, 748] (by decide +kernel) (by decide +kernel)) (goodIn_sub (fun _ h => List.mem_append_left _ (List.mem_append_left _ (List.mem_append_right _ h))) (by decide +kernel))) (goodIn_sub (fun _ h => List.mem_append_left _ (List.mem_append_right _ h)) (by decide +kernel))
set_option maxRecDepth 20000 in
theorem gL_law_L_add : GoodIn wsL_law (va_wsS RL 88 yL_add wsL_add) := goodIn_app (goodIn_of _ (by decide +kernel)) ggL_law_L_add
set_option maxRecDepth 20000 in
theorem ggL_law_X8_add : GoodIn wsL_law wsX8_add := goodIn_r _ [143, 144, 145, 146, 147, 148, 149, 5, 150, 151, 152, 153, 154, 155, 156, 157, 158, 84, 159, 160, 161, 162, 163, 164, 165, 166, 706, 707, 708, 709, 710, 711, 712, 713, 714, 715, 716, 717, 718, 719, 720, 721, 722, 723, 724, 725] (by decide +kernel) (by decide +kernel)
set_option maxRecDepth 20000 in
theorem gL_law_X8_add : GoodIn wsL_law (wsV RL 93 RX8 yX8_add wsX8_add) := goodIn_app (goodIn_of _ (by decide +kernel)) ggL_law_X8_add
set_option maxRecDepth 20000 in
theorem ggL_law_X8_thrown : GoodIn wsL_law wsX8_thrown := goodIn_r _ [170, 144, 706, 707, 708, 709, 710, 711, 712, 713, 714, 715, 716, 717, 718, 719, 720, 721, 722, 723, 724, 725] (by decide +kernel) (by decide +kernel)
set_option maxRecDepth 20000 in
theorem gL_law_X8_thrown : GoodIn wsL_law (wsV RL 94 RX8 yX8_thrown wsX8_thrown) := goodIn_app (goodIn_of _ (by decide +kernel)) ggL_law_X8_thrown
set_option maxRecDepth 20000 in
theorem ggL_law_L_addLine : GoodIn wsL_law wsL_addLine := goodIn_ca (goodIn_ca (goodIn_r _ [173, 100, 101, 174, 175, 176, 2, 177, 16, 178, 179, 180, 111, 112, 108, 109, 110, 113, 114, 115, 116, 117, 106, 107, 118, 181, 182, 183, 184, 119, 15, 120, 121, 122, 37, 123, 124, 125, 126, 127, 31, 128, 129, 46, 130, 131, 132, 133, 134, 135, 136, 137, 138, 139, 699, 700, 701, 702, 703, 704, 705, 726, 727, 748] (by decide +kernel) (by decide +kernel)) (goodIn_sub (fun _ h => List.mem_append_left _ (List.mem_append_right _ h)) (by decide +kernel))) (goodIn_sub (fun _ h => List.mem_append_left _ (List.mem_append_left _ (List.mem_append_right _ h))) (by decide +kernel))
set_option maxRecDepth 20000 in
theorem gL_law_L_addLine : GoodIn wsL_law (va_wsS RL 97 yL_addLine wsL_addLine) := goodIn_app (goodIn_of _ (by decide +kernel)) ggL_law_L_addLine
set_option maxRecDepth 20000 in
theorem ggL_law_X8_addLine : GoodIn wsL_law wsX8_addLine := goodIn_r _ [188, 144, 145, 146, 147, 148, 149, 5, 150, 151, 152, 153, 154, 155, 156, 157, 158, 84, 159, 160, 161, 162, 163, 164, 165, 166, 706, 707, 708, 709, 710, 711, 712, 713, 714, 715, 716, 717, 718, 719, 720, 721, 722, 723, 724, 725] (by decide +kernel) (by decide +kernel)
set_option maxRecDepth 20000 in
theorem gL_law_X8_addLine : GoodIn wsL_law (wsV RL 100 RX8 yX8_addLine wsX8_addLine) := goodIn_app (goodIn_of _ (by decide +kernel)) ggL_law_X8_addLine
set_option maxRecDepth 20000 in
theorem ggL_law_L_remove : GoodIn wsL_law wsL_remove := goodIn_ca (goodIn_ca (goodIn_r _ [191, 100, 101, 192, 193, 194, 2, 195, 106, 107, 16, 108, 109, 110, 111, 112, 113, 114, 115, 116, 117, 118, 119, 15, 120, 121, 122, 37, 123, 124, 125, 126, 127, 31, 128, 129, 46, 196, 197, 198, 137, 138, 139, 699, 700, 701, 702, 703, 704, 705, 726, 727, 748] (by decide +kernel) (by decide +kernel)) (goodIn_sub (fun _ h => List.mem_append_left _ (List.mem_append_left _ (List.mem_append_right _ h))) (by decide +kernel))) (goodIn_sub (fun _ h => List.mem_append_left _ (List.mem_append_right _ h)) (by decide +kernel))
set_option maxRecDepth 20000 in
theorem gL_law_L_remove : GoodIn wsL_law (va_wsS RL 101 yL_remove wsL_remove) := goodIn_app (goodIn_of _ (by decide +kernel)) ggL_law_L_remove
set_option maxRecDepth 20000 in
theorem ggL_law_X8_remove : GoodIn wsL_law wsX8_remove := goodIn_r _ [202, 144, 145, 146, 147, 84, 148, 149, 5, 150, 151, 152, 153, 154, 155, 156, 157, 158, 159, 160, 161, 162, 706, 707, 708, 709, 710, 711, 712, 713, 714, 715, 716, 717, 718, 719, 720, 721, 722, 723, 724, 725] (by decide +kernel) (by decide +kernel)
set_option maxRecDepth 20000 in
theorem gL_law_X8_remove : GoodIn wsL_law (wsV RL 103 RX8 yX8_remove wsX8_remove) := goodIn_app (goodIn_of _ (by decide +kernel)) ggL_law_X8_remove
set_option maxRecDepth 20000 in
theorem ggL_law_X7_keys : GoodIn wsL_law wsX7_keys := goodIn_r _ [206, 16, 699, 700, 701, 702, 703, 704, 705, 726, 727] (by decide +kernel) (by decide +kernel)
set_option maxRecDepth 20000 in
theorem gL_law_X7_keys : GoodIn wsL_law (wsV RL 104 RX7 yX7_keys wsX7_keys) := goodIn_app (goodIn_of _ (by decide +kernel)) ggL_law_X7_keys
set_option maxRecDepth 20000 in
theorem ggL_law_X8_keys : GoodIn wsL_law wsX8_keys := goodIn_r _ [210, 144, 147, 706, 707, 708, 709, 710, 711, 712, 713, 714, 715, 716, 717, 718, 719, 720, 721, 722, 723, 724, 725] (by decide +kernel) (by decide +kernel)
set_option maxRecDepth 20000 in
theorem gL_law_X8_keys : GoodIn wsL_law (wsV RL 107 RX8 yX8_keys wsX8_keys) := goodIn_app (goodIn_of _ (by decide +kernel)) ggL_law_X8_keys
set_option maxRecDepth 20000 in
theorem ggL_law_L_has : GoodIn wsL_law wsL_has := goodIn_ca (goodIn_r _ [213, 100, 214, 215, 216, 2, 217, 16, 108, 109, 110, 111, 112, 113, 119, 15, 120, 121, 122, 37, 123, 124, 125, 126, 127, 31, 128, 129, 46, 699, 700, 701, 702, 703, 704, 705, 726, 727, 748] (by decide +kernel) (by decide +kernel)) (goodIn_sub (fun _ h => List.mem_append_left _ (List.mem_append_right _ h)) (by decide +kernel))
set_option maxRecDepth 20000 in
theorem gL_law_L_has : GoodIn wsL_law (va_wsS RL 108 yL_has wsL_has) := goodIn_app (goodIn_of _ (by decide +kernel)) ggL_law_L_has
set_option maxRecDepth 20000 in
theorem ggL_law_X8_has : GoodIn wsL_law wsX8_has := goodIn_r _ [221, 144, 145, 148, 149, 5, 150, 151, 152, 153, 154, 155, 156, 157, 158, 147, 84, 159, 160, 161, 162, 706, 707, 708, 709, 710, 711, 712, 713, 714, 715, 716, 717, 718, 719, 720, 721, 722, 723, 724, 725] (by decide +kernel) (by decide +kernel)
set_option maxRecDepth 20000 in
theorem gL_law_X8_has : GoodIn wsL_law (wsV RL 110 RX8 yX8_has wsX8_has) := goodIn_app (goodIn_of _ (by decide +kernel)) ggL_law_X8_has
set_option maxRecDepth 20000 in
theorem ggL_law_L_keyAt : GoodIn wsL_law wsL_keyAt := goodIn_ca (goodIn_r _ [224, 225, 226, 227, 228, 2, 229, 16, 230, 231, 232, 233, 234, 235, 15, 236, 237, 37, 127, 31, 128, 129, 46, 699, 700, 701, 702, 703, 704, 705, 726, 727, 748] (by decide +kernel) (by decide +kernel)) (goodIn_sub (fun _ h => List.mem_append_right _ h) (by decide +kernel))
set_option maxRecDepth 20000 in
theorem gL_law_L_keyAt : GoodIn wsL_law (va_wsS RL 111 yL_keyAt wsL_keyAt) := goodIn_app (goodIn_of _ (by decide +kernel)) ggL_law_L_keyAt
set_option maxRecDepth 20000 in
theorem ggL_law_X8_keyAt : GoodIn wsL_law wsX8_keyAt := goodIn_r _ [241, 144, 147, 84, 148, 149, 5, 150, 151, 152, 153, 154, 706, 707, 708, 709, 710, 711, 712, 713, 714, 715, 716, 717, 718, 719, 720, 721, 722, 723, 724, 725] (by decide +kernel) (by decide +kernel)
set_option maxRecDepth 20000 in
theorem gL_law_X8_keyAt : GoodIn wsL_law (wsV RL 113 RX8 yX8_keyAt wsX8_keyAt) := goodIn_app (goodIn_of _ (by decide +kernel)) ggL_law_X8_keyAt
set_option maxRecDepth 20000 in
theorem ggL_law_L_build : GoodIn wsL_law wsL_build := goodIn_ca (goodIn_ca (goodIn_r _ [244, 100, 101, 245, 246, 247, 2, 248, 111, 112, 106, 107, 16, 20, 28, 24, 118, 114, 115, 116, 117, 249, 19, 250, 251, 252, 253, 254, 255, 256, 257, 258, 259, 260, 53, 55, 261, 56, 262, 52, 263, 264, 265, 266, 65, 267, 31, 268, 269, 46, 270, 271, 272, 273, 235, 15, 236, 237, 37, 127, 128, 129, 274, 275, 276, 277, 278, 279, 280, 281, 282, 283, 284, 285, 286, 287, 288, 289, 290, 291, 64, 137, 138, 139, 292, 293, 294, 295, 296, 297, 298, 299, 66, 300, 301, 302, 303, 58, 59, 304, 305, 306, 307, 308, 42, 43, 44, 309, 310, 311, 312, 313, 314, 315, 316, 317, 318, 319, 320, 321, 322, 323, 324, 325, 326, 327, 328, 329, 330, 57, 331, 332, 333, 334, 335, 336, 337, 338, 339, 340, 341, 342, 27, 343, 344, 345, 346, 347, 348, 349, 350, 351, 75, 352, 353, 354, 355, 356, 357, 358, 359, 360, 361, 78, 77, 362, 363, 364, 365, 366, 79, 367, 368, 369, 370, 371, 372, 373, 374, 375, 376, 377, 378, 379, 380, 381, 382, 32, 383, 384, 385, 386, 387, 388, 389, 390, 391, 392, 23, 393, 394, 70, 395, 396, 397, 398, 399, 400, 401, 402, 403, 404, 405, 406, 407, 408, 409, 410, 411, 412, 413, 414, 699, 700, 701, 702, 703, 704, 705, 726, 727, 728, 729, 730, 731, 732, 733, 734, 735, 736, 749, 750, 751, 752, 753, 748, 740, 741, 742, 743, 744, 745, 746, 747, 737, 738, 739] (by decide +kernel) (by decide +kernel)) (goodIn_sub (fun _ h => List.mem_append_left _ (List.mem_append_right _ h)) (by decide +kernel))) (goodIn_sub (fun _ h => List.mem_append_left _ (List.mem_append_left _ (List.mem_append_right _ h))) (by decide +kernel))
set_option maxRecDepth 20000 in
theorem gL_law_L_build : GoodIn wsL_law (va_wsS RL 114 yL_build wsL_build) := goodIn_app (goodIn_of _ (by decide +kernel)) ggL_law_L_build
set_option maxRecDepth 20000 in
theorem ggL_law_X8_build : GoodIn wsL_law wsX8_build := goodIn_r _ [418, 144, 146, 147, 419, 420, 421, 422, 85, 86, 90, 87, 91, 88, 148, 149, 5, 150, 151, 152, 153, 154, 423, 424, 425, 426, 427, 428, 429, 430, 84, 89, 431, 432, 433, 434, 435, 436, 437, 438, 439, 440, 441, 442, 443, 444, 445, 446, 447, 448, 449, 450, 451, 452, 453, 454, 455, 456, 457, 458, 459, 460, 461, 462, 463, 464, 465, 466, 467, 468, 469, 470, 471, 472, 473, 474, 475, 476, 477, 478, 479, 94, 95, 480, 481, 482, 483, 484, 485, 486, 487, 488, 489, 490, 491, 93, 492, 493, 494, 495, 496, 92, 706, 707, 708, 709, 710, 711, 712, 713, 714, 715, 716, 717, 718, 719, 720, 721, 722, 723, 724, 725] (by decide +kernel) (by decide +kernel)
set_option maxRecDepth 20000 in
theorem gL_law_X8_build : GoodIn wsL_law (wsV RL 117 RX8 yX8_build wsX8_build) := goodIn_app (goodIn_of _ (by decide +kernel)) ggL_law_X8_build
set_option maxRecDepth 20000 in
theorem ggL_law_L_reopen : GoodIn wsL_law wsL_reopen := goodIn_ca (goodIn_r _ [499, 101, 500, 501, 502, 2, 503, 118, 504, 505, 506, 507, 106, 107, 699, 700, 701, 702, 703, 704, 705] (by decide +kernel) (by decide +kernel)) (goodIn_sub (fun _ h => List.mem_append_left _ (List.mem_append_left _ (List.mem_append_right _ h))) (by decide +kernel))
set_option maxRecDepth 20000 in
theorem gL_law_L_reopen : GoodIn wsL_law (va_wsS RL 118 yL_reopen wsL_reopen) := goodIn_app (goodIn_of _ (by decide +kernel)) ggL_law_L_reopen
set_option maxRecDepth 20000 in
theorem ggL_law_X8_reopen : GoodIn wsL_law wsX8_reopen := goodIn_r _ [511, 144, 146, 151, 152, 153, 5, 154, 706, 707, 708, 709, 710, 711, 712, 713, 714, 715, 716, 717, 718, 719, 720, 721, 722, 723, 724, 725] (by decide +kernel) (by decide +kernel)
set_option maxRecDepth 20000 in
theorem gL_law_X8_reopen : GoodIn wsL_law (wsV RL 121 RX8 yX8_reopen wsX8_reopen) := goodIn_app (goodIn_of _ (by decide +kernel)) ggL_law_X8_reopen
set_option maxRecDepth 20000 in
theorem ggL_law_X7_isBuilt : GoodIn wsL_law wsX7_isBuilt := goodIn_r _ [515, 118, 699, 700, 701, 702, 703, 704, 705] (by decide +kernel) (by decide +kernel)
set_option maxRecDepth 20000 in
theorem gL_law_X7_isBuilt : GoodIn wsL_law (wsV RL 122 RX7 yX7_isBuilt wsX7_isBuilt) := goodIn_app (goodIn_of _ (by decide +kernel)) ggL_law_X7_isBuilt
set_option maxRecDepth 20000 in
theorem ggL_law_X8_isBuilt : GoodIn wsL_law wsX8_isBuilt := goodIn_r _ [519, 144, 146, 706, 707, 708, 709, 710, 711, 712, 713, 714, 715, 716, 717, 718, 719, 720, 721, 722, 723, 724, 725] (by decide +kernel) (by decide +kernel)
set_option maxRecDepth 20000 in
theorem gL_law_X8_isBuilt : GoodIn wsL_law (wsV RL 126 RX8 yX8_isBuilt wsX8_isBuilt) := goodIn_app (goodIn_of _ (by decide +kernel)) ggL_law_X8_isBuilt
set_option maxRecDepth 20000 in
theorem ggL_law_L_number : GoodIn wsL_law wsL_number := goodIn_ca (goodIn_ca (goodIn_r _ [522, 100, 101, 523, 524, 525, 2, 526, 20, 108, 109, 110, 111, 112, 113, 504, 505, 506, 507, 106, 107, 118, 527, 19, 528, 529, 58, 261, 254, 252, 274, 275, 276, 277, 278, 253, 279, 280, 281, 282, 283, 284, 285, 286, 287, 288, 127, 31, 128, 129, 46, 292, 293, 294, 295, 296, 699, 700, 701, 702, 703, 704, 705, 728, 729, 730, 731, 732, 733, 734, 735, 736, 748] (by decide +kernel) (by decide +kernel)) (goodIn_sub (fun _ h => List.mem_append_left _ (List.mem_append_right _ h)) (by decide +kernel))) (goodIn_sub (fun _ h => List.mem_append_left _ (List.mem_append_left _ (List.mem_append_right _ h))) (by decide +kernel))
set_option maxRecDepth 20000 in
theorem gL_law_L_number : GoodIn wsL_law (va_wsS RL 127 yL_number wsL_number) := goodIn_app (goodIn_of _ (by decide +kernel)) ggL_law_L_number
set_option maxRecDepth 20000 in
theorem ggL_law_X8_number : GoodIn wsL_law wsX8_number := goodIn_r _ [533, 144, 145, 146, 148, 149, 5, 150, 151, 152, 153, 154, 534, 535, 536, 537, 419, 86, 422, 147, 431, 432, 433, 434, 435, 436, 437, 438, 439, 440, 441, 442, 443, 444, 445, 446, 447, 448, 449, 450, 451, 452, 453, 454, 455, 456, 457, 458, 459, 460, 461, 470, 471, 472, 473, 474, 475, 706, 707, 708, 709, 710, 711, 712, 713, 714, 715, 716, 717, 718, 719, 720, 721, 722, 723, 724, 725] (by decide +kernel) (by decide +kernel)
set_option maxRecDepth 20000 in
theorem gL_law_X8_number : GoodIn wsL_law (wsV RL 129 RX8 yX8_number wsX8_number) := goodIn_app (goodIn_of _ (by decide +kernel)) ggL_law_X8_number
set_option maxRecDepth 20000 in
theorem ggL_law_L_find : GoodIn wsL_law wsL_find := goodIn_ca (goodIn_ca (goodIn_r _ [540, 100, 101, 541, 542, 543, 2, 544, 108, 109, 110, 111, 112, 113, 504, 505, 506, 507, 106, 107, 118, 545, 546, 547, 548, 20, 32, 527, 19, 528, 529, 58, 261, 254, 252, 274, 275, 276, 277, 278, 253, 279, 280, 281, 282, 283, 284, 285, 286, 287, 288, 127, 31, 128, 129, 46, 292, 293, 294, 295, 296, 387, 388, 389, 390, 391, 382, 699, 700, 701, 702, 703, 704, 705, 728, 729, 730, 731, 732, 733, 734, 735, 736, 748] (by decide +kernel) (by decide +kernel)) (goodIn_sub (fun _ h => List.mem_append_left _ (List.mem_append_right _ h)) (by decide +kernel))) (goodIn_sub (fun _ h => List.mem_append_left _ (List.mem_append_left _ (List.mem_append_right _ h))) (by decide +kernel))
set_option maxRecDepth 20000 in
theorem gL_law_L_find : GoodIn wsL_law (va_wsS RL 130 yL_find wsL_find) := goodIn_app (goodIn_of _ (by decide +kernel)) ggL_law_L_find
set_option maxRecDepth 20000 in
theorem ggL_law_X8_find : GoodIn wsL_law wsX8_find := goodIn_r _ [552, 144, 145, 146, 148, 149, 5, 150, 151, 152, 153, 154, 553, 554, 555, 556, 88, 534, 535, 536, 537, 419, 86, 422, 147, 431, 432, 433, 434, 435, 436, 437, 438, 439, 440, 441, 442, 443, 444, 445, 446, 447, 448, 449, 450, 451, 452, 453, 454, 455, 456, 457, 458, 459, 460, 461, 470, 471, 472, 473, 474, 475, 484, 485, 486, 487, 421, 706, 707, 708, 709, 710, 711, 712, 713, 714, 715, 716, 717, 718, 719, 720, 721, 722, 723, 724, 725] (by decide +kernel) (by decide +kernel)
set_option maxRecDepth 20000 in
theorem gL_law_X8_find : GoodIn wsL_law (wsV RL 132 RX8 yX8_find wsX8_find) := goodIn_app (goodIn_of _ (by decide +kernel)) ggL_law_X8_find
set_option maxRecDepth 20000 in
theorem ggL_law_L_strangers : GoodIn wsL_law wsL_strangers := goodIn_ca (goodIn_ca (goodIn_r _ [559, 100, 101, 560, 561, 562, 2, 563, 111, 112, 16, 108, 109, 110, 113, 504, 505, 506, 507, 106, 107, 118, 545, 546, 547, 548, 20, 32, 527, 19, 528, 529, 58, 261, 254, 252, 274, 275, 276, 277, 278, 253, 279, 280, 281, 282, 283, 284, 285, 286, 287, 288, 127, 31, 128, 129, 46, 292, 293, 294, 295, 296, 387, 388, 389, 390, 391, 382, 119, 15, 120, 121, 122, 37, 123, 124, 125, 126, 699, 700, 701, 702, 703, 704, 705, 728, 729, 730, 731, 732, 733, 734, 735, 736, 748, 726, 727] (by decide +kernel) (by decide +kernel)) (goodIn_sub (fun _ h => List.mem_append_left _ (List.mem_append_right _ h)) (by decide +kernel))) (goodIn_sub (fun _ h => List.mem_append_left _ (List.mem_append_left _ (List.mem_append_right _ h))) (by decide +kernel))
set_option maxRecDepth 20000 in
theorem gL_law_L_strangers : GoodIn wsL_law (va_wsS RL 133 yL_strangers wsL_strangers) := goodIn_app (goodIn_of _ (by decide +kernel)) ggL_law_L_strangers
set_option maxRecDepth 20000 in
theorem ggL_law_X8_strangers : GoodIn wsL_law wsX8_strangers := goodIn_r _ [567, 144, 145, 146, 148, 149, 5, 150, 151, 152, 153, 154, 553, 554, 555, 556, 88, 534, 535, 536, 537, 419, 86, 422, 147, 431, 432, 433, 434, 435, 436, 437, 438, 439, 440, 441, 442, 443, 444, 445, 446, 447, 448, 449, 450, 451, 452, 453, 454, 455, 456, 457, 458, 459, 460, 461, 470, 471, 472, 473, 474, 475, 484, 485, 486, 487, 421, 155, 156, 157, 158, 84, 159, 160, 161, 162, 706, 707, 708, 709, 710, 711, 712, 713, 714, 715, 716, 717, 718, 719, 720, 721, 722, 723, 724, 725] (by decide +kernel) (by decide +kernel)
set_option maxRecDepth 20000 in
theorem gL_law_X8_strangers : GoodIn wsL_law (wsV RL 135 RX8 yX8_strangers wsX8_strangers) := goodIn_app (goodIn_of _ (by decide +kernel)) ggL_law_X8_strangers
set_option maxRecDepth 20000 in
theorem ggL_law_L_keyOf : GoodIn wsL_law wsL_keyOf := goodIn_ca (goodIn_ca (goodIn_r _ [570, 101, 225, 571, 572, 573, 2, 574, 16, 504, 505, 506, 507, 106, 107, 118, 230, 231, 232, 233, 234, 383, 384, 385, 386, 20, 127, 31, 128, 129, 46, 235, 15, 236, 237, 37, 699, 700, 701, 702, 703, 704, 705, 726, 727, 728, 729, 730, 731, 732, 733, 734, 735, 736, 748] (by decide +kernel) (by decide +kernel)) (goodIn_sub (fun _ h => List.mem_append_left _ (List.mem_append_left _ (List.mem_append_right _ h))) (by decide +kernel))) (goodIn_sub (fun _ h => List.mem_append_right _ h) (by decide +kernel))
set_option maxRecDepth 20000 in
theorem gL_law_L_keyOf : GoodIn wsL_law (va_wsS RL 136 yL_keyOf wsL_keyOf) := goodIn_app (goodIn_of _ (by decide +kernel)) ggL_law_L_keyOf
set_option maxRecDepth 20000 in
theorem ggL_law_X8_keyOf : GoodIn wsL_law wsX8_keyOf := goodIn_r _ [578, 144, 147, 87, 148, 149, 5, 150, 579, 580, 581, 582, 146, 151, 152, 153, 154, 706, 707, 708, 709, 710, 711, 712, 713, 714, 715, 716, 717, 718, 719, 720, 721, 722, 723, 724, 725] (by decide +kernel) (by decide +kernel)
set_option maxRecDepth 20000 in
theorem gL_law_X8_keyOf : GoodIn wsL_law (wsV RL 138 RX8 yX8_keyOf wsX8_keyOf) := goodIn_app (goodIn_of _ (by decide +kernel)) ggL_law_X8_keyOf
set_option maxRecDepth 20000 in
theorem ggL_law_L_fingerprint : GoodIn wsL_law wsL_fingerprint := goodIn_ca (goodIn_ca (goodIn_r _ [585, 101, 225, 586, 587, 588, 2, 589, 16, 32, 504, 505, 506, 507, 106, 107, 118, 230, 231, 232, 233, 234, 127, 31, 128, 129, 46, 699, 700, 701, 702, 703, 704, 705, 726, 727, 748] (by decide +kernel) (by decide +kernel)) (goodIn_sub (fun _ h => List.mem_append_left _ (List.mem_append_left _ (List.mem_append_right _ h))) (by decide +kernel))) (goodIn_sub (fun _ h => List.mem_append_right _ h) (by decide +kernel))
set_option maxRecDepth 20000 in
theorem gL_law_L_fingerprint : GoodIn wsL_law (va_wsS RL 139 yL_fingerprint wsL_fingerprint) := goodIn_app (goodIn_of _ (by decide +kernel)) ggL_law_L_fingerprint
set_option maxRecDepth 20000 in
theorem ggL_law_X8_fingerprint : GoodIn wsL_law wsX8_fingerprint := goodIn_r _ [593, 144, 147, 88, 148, 149, 5, 150, 579, 580, 581, 582, 146, 151, 152, 153, 154, 706, 707, 708, 709, 710, 711, 712, 713, 714, 715, 716, 717, 718, 719, 720, 721, 722, 723, 724, 725] (by decide +kernel) (by decide +kernel)
set_option maxRecDepth 20000 in
theorem gL_law_X8_fingerprint : GoodIn wsL_law (wsV RL 141 RX8 yX8_fingerprint wsX8_fingerprint) := goodIn_app (goodIn_of _ (by decide +kernel)) ggL_law_X8_fingerprint
set_option maxRecDepth 20000 in
theorem ggL_law_L_seed : GoodIn wsL_law wsL_seed := goodIn_ca (goodIn_r _ [596, 101, 597, 598, 599, 2, 600, 20, 504, 505, 506, 507, 106, 107, 118, 699, 700, 701, 702, 703, 704, 705, 728, 729, 730, 731, 732, 733, 734, 735, 736] (by decide +kernel) (by decide +kernel)) (goodIn_sub (fun _ h => List.mem_append_left _ (List.mem_append_left _ (List.mem_append_right _ h))) (by decide +kernel))
set_option maxRecDepth 20000 in
theorem gL_law_L_seed : GoodIn wsL_law (va_wsS RL 142 yL_seed wsL_seed) := goodIn_app (goodIn_of _ (by decide +kernel)) ggL_law_L_seed
set_option maxRecDepth 20000 in
theorem ggL_law_X8_seed : GoodIn wsL_law wsX8_seed := goodIn_r _ [604, 144, 419, 579, 580, 581, 5, 582, 146, 151, 152, 153, 154, 706, 707, 708, 709, 710, 711, 712, 713, 714, 715, 716, 717, 718, 719, 720, 721, 722, 723, 724, 725] (by decide +kernel) (by decide +kernel)
set_option maxRecDepth 20000 in
theorem gL_law_X8_seed : GoodIn wsL_law (wsV RL 145 RX8 yX8_seed wsX8_seed) := goodIn_app (goodIn_of _ (by decide +kernel)) ggL_law_X8_seed
set_option maxRecDepth 20000 in
theorem ggL_law_L_buckets : GoodIn wsL_law wsL_buckets := goodIn_ca (goodIn_r _ [607, 101, 608, 609, 610, 2, 611, 20, 504, 505, 506, 507, 106, 107, 118, 699, 700, 701, 702, 703, 704, 705, 728, 729, 730, 731, 732, 733, 734, 735, 736] (by decide +kernel) (by decide +kernel)) (goodIn_sub (fun _ h => List.mem_append_left _ (List.mem_append_left _ (List.mem_append_right _ h))) (by decide +kernel))
set_option maxRecDepth 20000 in
theorem gL_law_L_buckets : GoodIn wsL_law (va_wsS RL 146 yL_buckets wsL_buckets) := goodIn_app (goodIn_of _ (by decide +kernel)) ggL_law_L_buckets
set_option maxRecDepth 20000 in
theorem ggL_law_X8_buckets : GoodIn wsL_law wsX8_buckets := goodIn_r _ [615, 144, 422, 579, 580, 581, 5, 582, 146, 151, 152, 153, 154, 706, 707, 708, 709, 710, 711, 712, 713, 714, 715, 716, 717, 718, 719, 720, 721, 722, 723, 724, 725] (by decide +kernel) (by decide +kernel)
set_option maxRecDepth 20000 in
theorem gL_law_X8_buckets : GoodIn wsL_law (wsV RL 148 RX8 yX8_buckets wsX8_buckets) := goodIn_app (goodIn_of _ (by decide +kernel)) ggL_law_X8_buckets
set_option maxRecDepth 20000 in
theorem ggL_law_L_inBucket : GoodIn wsL_law wsL_inBucket := goodIn_ca (goodIn_ca (goodIn_r _ [618, 101, 225, 619, 620, 621, 2, 622, 20, 504, 505, 506, 507, 106, 107, 118, 230, 231, 232, 233, 234, 309, 52, 310, 311, 312, 313, 314, 315, 65, 127, 31, 128, 129, 46, 316, 317, 318, 319, 699, 700, 701, 702, 703, 704, 705, 728, 729, 730, 731, 732, 733, 734, 735, 736, 749, 750, 751, 752, 753, 748] (by decide +kernel) (by decide +kernel)) (goodIn_sub (fun _ h => List.mem_append_left _ (List.mem_append_left _ (List.mem_append_right _ h))) (by decide +kernel))) (goodIn_sub (fun _ h => List.mem_append_right _ h) (by decide +kernel))
set_option maxRecDepth 20000 in
theorem gL_law_L_inBucket : GoodIn wsL_law (va_wsS RL 149 yL_inBucket wsL_inBucket) := goodIn_app (goodIn_of _ (by decide +kernel)) ggL_law_L_inBucket
set_option maxRecDepth 20000 in
theorem ggL_law_X8_inBucket : GoodIn wsL_law wsX8_inBucket := goodIn_r _ [626, 144, 422, 85, 148, 149, 5, 150, 579, 580, 581, 582, 146, 151, 152, 153, 154, 706, 707, 708, 709, 710, 711, 712, 713, 714, 715, 716, 717, 718, 719, 720, 721, 722, 723, 724, 725] (by decide +kernel) (by decide +kernel)
set_option maxRecDepth 20000 in
theorem gL_law_X8_inBucket : GoodIn wsL_law (wsV RL 151 RX8 yX8_inBucket wsX8_inBucket) := goodIn_app (goodIn_of _ (by decide +kernel)) ggL_law_X8_inBucket
set_option maxRecDepth 20000 in
theorem ggL_law_L_displacement : GoodIn wsL_law wsL_displacement := goodIn_ca (goodIn_ca (goodIn_r _ [629, 101, 225, 630, 631, 632, 2, 633, 20, 504, 505, 506, 507, 106, 107, 118, 230, 231, 232, 233, 234, 127, 31, 128, 129, 46, 699, 700, 701, 702, 703, 704, 705, 728, 729, 730, 731, 732, 733, 734, 735, 736, 748] (by decide +kernel) (by decide +kernel)) (goodIn_sub (fun _ h => List.mem_append_left _ (List.mem_append_left _ (List.mem_append_right _ h))) (by decide +kernel))) (goodIn_sub (fun _ h => List.mem_append_right _ h) (by decide +kernel))
set_option maxRecDepth 20000 in
theorem gL_law_L_displacement : GoodIn wsL_law (va_wsS RL 152 yL_displacement wsL_displacement) := goodIn_app (goodIn_of _ (by decide +kernel)) ggL_law_L_displacement
set_option maxRecDepth 20000 in
theorem ggL_law_X8_displacement : GoodIn wsL_law wsX8_displacement := goodIn_r _ [637, 144, 422, 86, 148, 149, 5, 150, 579, 580, 581, 582, 146, 151, 152, 153, 154, 706, 707, 708, 709, 710, 711, 712, 713, 714, 715, 716, 717, 718, 719, 720, 721, 722, 723, 724, 725] (by decide +kernel) (by decide +kernel)
set_option maxRecDepth 20000 in
theorem gL_law_X8_displacement : GoodIn wsL_law (wsV RL 154 RX8 yX8_displacement wsX8_displacement) := goodIn_app (goodIn_of _ (by decide +kernel)) ggL_law_X8_displacement
set_option maxRecDepth 20000 in
theorem ggL_law_L_width : GoodIn wsL_law wsL_width := goodIn_ca (goodIn_r _ [640, 101, 641, 642, 643, 2, 644, 24, 504, 505, 506, 507, 106, 107, 118, 699, 700, 701, 702, 703, 704, 705, 737, 738, 739] (by decide +kernel) (by decide +kernel)) (goodIn_sub (fun _ h => List.mem_append_left _ (List.mem_append_left _ (List.mem_append_right _ h))) (by decide +kernel))
set_option maxRecDepth 20000 in
theorem gL_law_L_width : GoodIn wsL_law (va_wsS RL 155 yL_width wsL_width) := goodIn_app (goodIn_of _ (by decide +kernel)) ggL_law_L_width
set_option maxRecDepth 20000 in
theorem ggL_law_X8_width : GoodIn wsL_law wsX8_width := goodIn_r _ [648, 144, 496, 579, 580, 581, 5, 582, 146, 151, 152, 153, 154, 706, 707, 708, 709, 710, 711, 712, 713, 714, 715, 716, 717, 718, 719, 720, 721, 722, 723, 724, 725] (by decide +kernel) (by decide +kernel)
set_option maxRecDepth 20000 in
theorem gL_law_X8_width : GoodIn wsL_law (wsV RL 157 RX8 yX8_width wsX8_width) := goodIn_app (goodIn_of _ (by decide +kernel)) ggL_law_X8_width
set_option maxRecDepth 20000 in
theorem ggL_law_L_word : GoodIn wsL_law wsL_word := goodIn_ca (goodIn_ca (goodIn_r _ [651, 101, 225, 652, 653, 654, 2, 655, 24, 504, 505, 506, 507, 106, 107, 118, 230, 231, 232, 233, 234, 656, 23, 657, 658, 70, 699, 700, 701, 702, 703, 704, 705, 737, 738, 739] (by decide +kernel) (by decide +kernel)) (goodIn_sub (fun _ h => List.mem_append_left _ (List.mem_append_left _ (List.mem_append_right _ h))) (by decide +kernel))) (goodIn_sub (fun _ h => List.mem_append_right _ h) (by decide +kernel))
set_option maxRecDepth 20000 in
theorem gL_law_L_word : GoodIn wsL_law (va_wsS RL 158 yL_word wsL_word) := goodIn_app (goodIn_of _ (by decide +kernel)) ggL_law_L_word
set_option maxRecDepth 20000 in
theorem ggL_law_X8_word : GoodIn wsL_law wsX8_word := goodIn_r _ [662, 144, 146, 422, 496, 92, 151, 152, 153, 5, 154, 148, 149, 150, 706, 707, 708, 709, 710, 711, 712, 713, 714, 715, 716, 717, 718, 719, 720, 721, 722, 723, 724, 725] (by decide +kernel) (by decide +kernel)
set_option maxRecDepth 20000 in
theorem gL_law_X8_word : GoodIn wsL_law (wsV RL 160 RX8 yX8_word wsX8_word) := goodIn_app (goodIn_of _ (by decide +kernel)) ggL_law_X8_word
set_option maxRecDepth 20000 in
theorem ggL_law_L_byGraph : GoodIn wsL_law wsL_byGraph := goodIn_ca (goodIn_ca (goodIn_r _ [665, 100, 101, 666, 667, 668, 2, 669, 28, 108, 109, 110, 111, 112, 113, 504, 505, 506, 507, 106, 107, 118, 670, 27, 671, 672, 78, 352, 353, 345, 354, 355, 356, 357, 347, 346, 279, 280, 281, 282, 283, 284, 285, 286, 287, 288, 127, 31, 128, 129, 46, 699, 700, 701, 702, 703, 704, 705, 740, 741, 742, 743, 744, 745, 746, 747, 748] (by decide +kernel) (by decide +kernel)) (goodIn_sub (fun _ h => List.mem_append_left _ (List.mem_append_right _ h)) (by decide +kernel))) (goodIn_sub (fun _ h => List.mem_append_left _ (List.mem_append_left _ (List.mem_append_right _ h))) (by decide +kernel))
set_option maxRecDepth 20000 in
theorem gL_law_L_byGraph : GoodIn wsL_law (va_wsS RL 161 yL_byGraph wsL_byGraph) := goodIn_app (goodIn_of _ (by decide +kernel)) ggL_law_L_byGraph
set_option maxRecDepth 20000 in
theorem ggL_law_X8_byGraph : GoodIn wsL_law wsX8_byGraph := goodIn_r _ [676, 144, 145, 146, 93, 420, 147, 148, 149, 5, 150, 151, 152, 153, 154, 431, 432, 433, 434, 435, 436, 437, 438, 439, 440, 441, 442, 443, 444, 445, 446, 447, 448, 449, 450, 451, 452, 453, 454, 455, 456, 457, 458, 459, 460, 461, 706, 707, 708, 709, 710, 711, 712, 713, 714, 715, 716, 717, 718, 719, 720, 721, 722, 723, 724, 725] (by decide +kernel) (by decide +kernel)
set_option maxRecDepth 20000 in
theorem gL_law_X8_byGraph : GoodIn wsL_law (wsV RL 163 RX8 yX8_byGraph wsX8_byGraph) := goodIn_app (goodIn_of _ (by decide +kernel)) ggL_law_X8_byGraph
set_option maxRecDepth 20000 in
theorem ggL_law_L_graphSeed : GoodIn wsL_law wsL_graphSeed := goodIn_ca (goodIn_r _ [679, 101, 680, 681, 682, 2, 683, 28, 504, 505, 506, 507, 106, 107, 118, 699, 700, 701, 702, 703, 704, 705, 740, 741, 742, 743, 744, 745, 746, 747] (by decide +kernel) (by decide +kernel)) (goodIn_sub (fun _ h => List.mem_append_left _ (List.mem_append_left _ (List.mem_append_right _ h))) (by decide +kernel))
set_option maxRecDepth 20000 in
theorem gL_law_L_graphSeed : GoodIn wsL_law (va_wsS RL 164 yL_graphSeed wsL_graphSeed) := goodIn_app (goodIn_of _ (by decide +kernel)) ggL_law_L_graphSeed
set_option maxRecDepth 20000 in
theorem ggL_law_X8_graphSeed : GoodIn wsL_law wsX8_graphSeed := goodIn_r _ [687, 144, 420, 579, 580, 581, 5, 582, 146, 151, 152, 153, 154, 706, 707, 708, 709, 710, 711, 712, 713, 714, 715, 716, 717, 718, 719, 720, 721, 722, 723, 724, 725] (by decide +kernel) (by decide +kernel)
set_option maxRecDepth 20000 in
theorem gL_law_X8_graphSeed : GoodIn wsL_law (wsV RL 166 RX8 yX8_graphSeed wsX8_graphSeed) := goodIn_app (goodIn_of _ (by decide +kernel)) ggL_law_X8_graphSeed
set_option maxRecDepth 20000 in
theorem ggL_law_L_valueOf : GoodIn wsL_law wsL_valueOf := goodIn_ca (goodIn_ca (goodIn_r _ [690, 101, 225, 691, 692, 693, 2, 694, 28, 504, 505, 506, 507, 106, 107, 118, 230, 231, 232, 233, 234, 127, 31, 128, 129, 46, 699, 700, 701, 702, 703, 704, 705, 740, 741, 742, 743, 744, 745, 746, 747, 748] (by decide +kernel) (by decide +kernel)) (goodIn_sub (fun _ h => List.mem_append_left _ (List.mem_append_left _ (List.mem_append_right _ h))) (by decide +kernel))) (goodIn_sub (fun _ h => List.mem_append_right _ h) (by decide +kernel))
set_option maxRecDepth 20000 in
theorem gL_law_L_valueOf : GoodIn wsL_law (va_wsS RL 167 yL_valueOf wsL_valueOf) := goodIn_app (goodIn_of _ (by decide +kernel)) ggL_law_L_valueOf
set_option maxRecDepth 20000 in
theorem ggL_law_X8_valueOf : GoodIn wsL_law wsX8_valueOf := goodIn_r _ [698, 144, 147, 93, 148, 149, 5, 150, 579, 580, 581, 582, 146, 151, 152, 153, 154, 706, 707, 708, 709, 710, 711, 712, 713, 714, 715, 716, 717, 718, 719, 720, 721, 722, 723, 724, 725] (by decide +kernel) (by decide +kernel)
set_option maxRecDepth 20000 in
theorem gL_law_X8_valueOf : GoodIn wsL_law (wsV RL 169 RX8 yX8_valueOf wsX8_valueOf) := goodIn_app (goodIn_of _ (by decide +kernel)) ggL_law_X8_valueOf
theorem dL_law_0 : decode cL_law 0 = .ok (.new 8, 3) := by decide +kernel
theorem dL_law_3 : decode cL_law 3 = .ok (.dup, 1) := by decide +kernel
theorem dL_law_4 : decode cL_law 4 = .ok (.invokespecial 84, 3) := by decide +kernel
theorem dL_law_7 : decode cL_law 7 = .ok (.astore_n 1, 1) := by decide +kernel
theorem dL_law_8 : decode cL_law 8 = .ok (.new 85, 3) := by decide +kernel
theorem dL_law_11 : decode cL_law 11 = .ok (.dup, 1) := by decide +kernel
theorem dL_law_12 : decode cL_law 12 = .ok (.invokespecial 87, 3) := by decide +kernel
theorem dL_law_15 : decode cL_law 15 = .ok (.astore_n 2, 1) := by decide +kernel
theorem dL_law_16 : decode cL_law 16 = .ok (.iconst 1, 1) := by decide +kernel
theorem dL_law_17 : decode cL_law 17 = .ok (.newarray .long, 2) := by decide +kernel
theorem dL_law_19 : decode cL_law 19 = .ok (.astore_n 3, 1) := by decide +kernel
theorem dL_law_20 : decode cL_law 20 = .ok (.iconst 0, 1) := by decide +kernel
theorem dL_law_21 : decode cL_law 21 = .ok (.istore 4, 2) := by decide +kernel
theorem dL_law_23 : decode cL_law 23 = .ok (.iload 4, 2) := by decide +kernel
theorem dL_law_25 : decode cL_law 25 = .ok (.aload_n 0, 1) := by decide +kernel
theorem dL_law_26 : decode cL_law 26 = .ok (.arraylength, 1) := by decide +kernel
theorem dL_law_27 : decode cL_law 27 = .ok (.iconst 4, 1) := by decide +kernel
theorem dL_law_28 : decode cL_law 28 = .ok (.isub, 1) := by decide +kernel
theorem dL_law_29 : decode cL_law 29 = .ok (.if_icmp .gt 1297, 3) := by decide +kernel
theorem dL_law_32 : decode cL_law 32 = .ok (.aload_n 0, 1) := by decide +kernel
theorem dL_law_33 : decode cL_law 33 = .ok (.iload 4, 2) := by decide +kernel
theorem dL_law_35 : decode cL_law 35 = .ok (.iaload, 1) := by decide +kernel
theorem dL_law_36 : decode cL_law 36 = .ok (.bipush 31, 2) := by decide +kernel
theorem dL_law_38 : decode cL_law 38 = .ok (.iand, 1) := by decide +kernel
theorem dL_law_39 : decode cL_law 39 = .ok (.tableswitch 1281 0 22 #[105, 161, 241, 297, 310, 373, 429, 497, 521, 534, 590, 646, 714, 770, 826, 870, 914, 970, 1026, 1070, 1125, 1181, 1225], 105) := by decide +kernel
theorem dL_law_144 : decode cL_law 144 = .ok (.aload_n 1, 1) := by decide +kernel
theorem dL_law_145 : decode cL_law 145 = .ok (.aload_n 0, 1) := by decide +kernel
theorem dL_law_146 : decode cL_law 146 = .ok (.iload 4, 2) := by decide +kernel
theorem dL_law_148 : decode cL_law 148 = .ok (.iconst 1, 1) := by decide +kernel
theorem dL_law_149 : decode cL_law 149 = .ok (.iadd, 1) := by decide +kernel
theorem dL_law_150 : decode cL_law 150 = .ok (.iaload, 1) := by decide +kernel
theorem dL_law_151 : decode cL_law 151 = .ok (.aload_n 3, 1) := by decide +kernel
theorem dL_law_152 : decode cL_law 152 = .ok (.invokestatic 88, 3) := by decide +kernel
theorem dL_law_155 : decode cL_law 155 = .ok (.istore 5, 2) := by decide +kernel
theorem dL_law_157 : decode cL_law 157 = .ok (.aload_n 2, 1) := by decide +kernel
theorem dL_law_158 : decode cL_law 158 = .ok (.aload_n 0, 1) := by decide +kernel
theorem dL_law_159 : decode cL_law 159 = .ok (.iload 4, 2) := by decide +kernel
theorem dL_law_161 : decode cL_law 161 = .ok (.iconst 1, 1) := by decide +kernel
theorem dL_law_162 : decode cL_law 162 = .ok (.iadd, 1) := by decide +kernel
theorem dL_law_163 : decode cL_law 163 = .ok (.iaload, 1) := by decide +kernel
theorem dL_law_164 : decode cL_law 164 = .ok (.invokevirtual 93, 3) := by decide +kernel
theorem dL_law_167 : decode cL_law 167 = .ok (.istore 6, 2) := by decide +kernel
theorem dL_law_169 : decode cL_law 169 = .ok (.aload_n 2, 1) := by decide +kernel
theorem dL_law_170 : decode cL_law 170 = .ok (.invokevirtual 94, 3) := by decide +kernel
theorem dL_law_173 : decode cL_law 173 = .ok (.iload 5, 2) := by decide +kernel
theorem dL_law_175 : decode cL_law 175 = .ok (.if_icmp .eq 5, 3) := by decide +kernel
theorem dL_law_178 : decode cL_law 178 = .ok (.iconst 0, 1) := by decide +kernel
theorem dL_law_179 : decode cL_law 179 = .ok (.ireturn, 1) := by decide +kernel
theorem dL_law_180 : decode cL_law 180 = .ok (.iload 5, 2) := by decide +kernel
theorem dL_law_182 : decode cL_law 182 = .ok (.ifCond .ne 15, 3) := by decide +kernel
theorem dL_law_185 : decode cL_law 185 = .ok (.aload_n 3, 1) := by decide +kernel
theorem dL_law_186 : decode cL_law 186 = .ok (.iconst 0, 1) := by decide +kernel
theorem dL_law_187 : decode cL_law 187 = .ok (.laload, 1) := by decide +kernel
theorem dL_law_188 : decode cL_law 188 = .ok (.iload 6, 2) := by decide +kernel
theorem dL_law_190 : decode cL_law 190 = .ok (.i2l, 1) := by decide +kernel
theorem dL_law_191 : decode cL_law 191 = .ok (.lcmp, 1) := by decide +kernel
theorem dL_law_192 : decode cL_law 192 = .ok (.ifCond .eq 5, 3) := by decide +kernel
theorem dL_law_195 : decode cL_law 195 = .ok (.iconst 0, 1) := by decide +kernel
theorem dL_law_196 : decode cL_law 196 = .ok (.ireturn, 1) := by decide +kernel
theorem dL_law_197 : decode cL_law 197 = .ok (.goto 1123, 3) := by decide +kernel
theorem dL_law_200 : decode cL_law 200 = .ok (.aload_n 1, 1) := by decide +kernel
theorem dL_law_201 : decode cL_law 201 = .ok (.aload_n 0, 1) := by decide +kernel
theorem dL_law_202 : decode cL_law 202 = .ok (.iload 4, 2) := by decide +kernel
theorem dL_law_204 : decode cL_law 204 = .ok (.iconst 1, 1) := by decide +kernel
theorem dL_law_205 : decode cL_law 205 = .ok (.iadd, 1) := by decide +kernel
theorem dL_law_206 : decode cL_law 206 = .ok (.iaload, 1) := by decide +kernel
theorem dL_law_207 : decode cL_law 207 = .ok (.aload_n 0, 1) := by decide +kernel
theorem dL_law_208 : decode cL_law 208 = .ok (.iload 4, 2) := by decide +kernel
theorem dL_law_210 : decode cL_law 210 = .ok (.iconst 2, 1) := by decide +kernel
theorem dL_law_211 : decode cL_law 211 = .ok (.iadd, 1) := by decide +kernel
theorem dL_law_212 : decode cL_law 212 = .ok (.iaload, 1) := by decide +kernel
theorem dL_law_213 : decode cL_law 213 = .ok (.aload_n 0, 1) := by decide +kernel
theorem dL_law_214 : decode cL_law 214 = .ok (.iload 4, 2) := by decide +kernel
theorem dL_law_216 : decode cL_law 216 = .ok (.iconst 3, 1) := by decide +kernel
theorem dL_law_217 : decode cL_law 217 = .ok (.iadd, 1) := by decide +kernel
theorem dL_law_218 : decode cL_law 218 = .ok (.iaload, 1) := by decide +kernel
theorem dL_law_219 : decode cL_law 219 = .ok (.aload_n 3, 1) := by decide +kernel
theorem dL_law_220 : decode cL_law 220 = .ok (.invokestatic 97, 3) := by decide +kernel
theorem dL_law_223 : decode cL_law 223 = .ok (.istore 5, 2) := by decide +kernel
theorem dL_law_225 : decode cL_law 225 = .ok (.aload_n 2, 1) := by decide +kernel
theorem dL_law_226 : decode cL_law 226 = .ok (.aload_n 0, 1) := by decide +kernel
theorem dL_law_227 : decode cL_law 227 = .ok (.iload 4, 2) := by decide +kernel
theorem dL_law_229 : decode cL_law 229 = .ok (.iconst 1, 1) := by decide +kernel
theorem dL_law_230 : decode cL_law 230 = .ok (.iadd, 1) := by decide +kernel
theorem dL_law_231 : decode cL_law 231 = .ok (.iaload, 1) := by decide +kernel
theorem dL_law_232 : decode cL_law 232 = .ok (.aload_n 0, 1) := by decide +kernel
theorem dL_law_233 : decode cL_law 233 = .ok (.iload 4, 2) := by decide +kernel
theorem dL_law_235 : decode cL_law 235 = .ok (.iconst 2, 1) := by decide +kernel
theorem dL_law_236 : decode cL_law 236 = .ok (.iadd, 1) := by decide +kernel
theorem dL_law_237 : decode cL_law 237 = .ok (.iaload, 1) := by decide +kernel
theorem dL_law_238 : decode cL_law 238 = .ok (.aload_n 0, 1) := by decide +kernel
theorem dL_law_239 : decode cL_law 239 = .ok (.iload 4, 2) := by decide +kernel
theorem dL_law_241 : decode cL_law 241 = .ok (.iconst 3, 1) := by decide +kernel
theorem dL_law_242 : decode cL_law 242 = .ok (.iadd, 1) := by decide +kernel
theorem dL_law_243 : decode cL_law 243 = .ok (.iaload, 1) := by decide +kernel
theorem dL_law_244 : decode cL_law 244 = .ok (.invokevirtual 100, 3) := by decide +kernel
theorem dL_law_247 : decode cL_law 247 = .ok (.istore 6, 2) := by decide +kernel
theorem dL_law_249 : decode cL_law 249 = .ok (.aload_n 2, 1) := by decide +kernel
theorem dL_law_250 : decode cL_law 250 = .ok (.invokevirtual 94, 3) := by decide +kernel
theorem dL_law_253 : decode cL_law 253 = .ok (.iload 5, 2) := by decide +kernel
theorem dL_law_255 : decode cL_law 255 = .ok (.if_icmp .eq 5, 3) := by decide +kernel
theorem dL_law_258 : decode cL_law 258 = .ok (.iconst 0, 1) := by decide +kernel
theorem dL_law_259 : decode cL_law 259 = .ok (.ireturn, 1) := by decide +kernel
theorem dL_law_260 : decode cL_law 260 = .ok (.iload 5, 2) := by decide +kernel
theorem dL_law_262 : decode cL_law 262 = .ok (.ifCond .ne 15, 3) := by decide +kernel
theorem dL_law_265 : decode cL_law 265 = .ok (.aload_n 3, 1) := by decide +kernel
theorem dL_law_266 : decode cL_law 266 = .ok (.iconst 0, 1) := by decide +kernel
theorem dL_law_267 : decode cL_law 267 = .ok (.laload, 1) := by decide +kernel
theorem dL_law_268 : decode cL_law 268 = .ok (.iload 6, 2) := by decide +kernel
theorem dL_law_270 : decode cL_law 270 = .ok (.i2l, 1) := by decide +kernel
theorem dL_law_271 : decode cL_law 271 = .ok (.lcmp, 1) := by decide +kernel
theorem dL_law_272 : decode cL_law 272 = .ok (.ifCond .eq 5, 3) := by decide +kernel
theorem dL_law_275 : decode cL_law 275 = .ok (.iconst 0, 1) := by decide +kernel
theorem dL_law_276 : decode cL_law 276 = .ok (.ireturn, 1) := by decide +kernel
theorem dL_law_277 : decode cL_law 277 = .ok (.goto 1043, 3) := by decide +kernel
theorem dL_law_280 : decode cL_law 280 = .ok (.aload_n 1, 1) := by decide +kernel
theorem dL_law_281 : decode cL_law 281 = .ok (.aload_n 0, 1) := by decide +kernel
theorem dL_law_282 : decode cL_law 282 = .ok (.iload 4, 2) := by decide +kernel
theorem dL_law_284 : decode cL_law 284 = .ok (.iconst 1, 1) := by decide +kernel
theorem dL_law_285 : decode cL_law 285 = .ok (.iadd, 1) := by decide +kernel
theorem dL_law_286 : decode cL_law 286 = .ok (.iaload, 1) := by decide +kernel
theorem dL_law_287 : decode cL_law 287 = .ok (.aload_n 3, 1) := by decide +kernel
theorem dL_law_288 : decode cL_law 288 = .ok (.invokestatic 101, 3) := by decide +kernel
theorem dL_law_291 : decode cL_law 291 = .ok (.istore 5, 2) := by decide +kernel
theorem dL_law_293 : decode cL_law 293 = .ok (.aload_n 2, 1) := by decide +kernel
theorem dL_law_294 : decode cL_law 294 = .ok (.aload_n 0, 1) := by decide +kernel
theorem dL_law_295 : decode cL_law 295 = .ok (.iload 4, 2) := by decide +kernel
theorem dL_law_297 : decode cL_law 297 = .ok (.iconst 1, 1) := by decide +kernel
theorem dL_law_298 : decode cL_law 298 = .ok (.iadd, 1) := by decide +kernel
theorem dL_law_299 : decode cL_law 299 = .ok (.iaload, 1) := by decide +kernel
theorem dL_law_300 : decode cL_law 300 = .ok (.invokevirtual 103, 3) := by decide +kernel
theorem dL_law_303 : decode cL_law 303 = .ok (.istore 6, 2) := by decide +kernel
theorem dL_law_305 : decode cL_law 305 = .ok (.aload_n 2, 1) := by decide +kernel
theorem dL_law_306 : decode cL_law 306 = .ok (.invokevirtual 94, 3) := by decide +kernel
theorem dL_law_309 : decode cL_law 309 = .ok (.iload 5, 2) := by decide +kernel
theorem dL_law_311 : decode cL_law 311 = .ok (.if_icmp .eq 5, 3) := by decide +kernel
theorem dL_law_314 : decode cL_law 314 = .ok (.iconst 0, 1) := by decide +kernel
theorem dL_law_315 : decode cL_law 315 = .ok (.ireturn, 1) := by decide +kernel
theorem dL_law_316 : decode cL_law 316 = .ok (.iload 5, 2) := by decide +kernel
theorem dL_law_318 : decode cL_law 318 = .ok (.ifCond .ne 15, 3) := by decide +kernel
theorem dL_law_321 : decode cL_law 321 = .ok (.aload_n 3, 1) := by decide +kernel
theorem dL_law_322 : decode cL_law 322 = .ok (.iconst 0, 1) := by decide +kernel
theorem dL_law_323 : decode cL_law 323 = .ok (.laload, 1) := by decide +kernel
theorem dL_law_324 : decode cL_law 324 = .ok (.iload 6, 2) := by decide +kernel
theorem dL_law_326 : decode cL_law 326 = .ok (.i2l, 1) := by decide +kernel
theorem dL_law_327 : decode cL_law 327 = .ok (.lcmp, 1) := by decide +kernel
theorem dL_law_328 : decode cL_law 328 = .ok (.ifCond .eq 5, 3) := by decide +kernel
theorem dL_law_331 : decode cL_law 331 = .ok (.iconst 0, 1) := by decide +kernel
theorem dL_law_332 : decode cL_law 332 = .ok (.ireturn, 1) := by decide +kernel
theorem dL_law_333 : decode cL_law 333 = .ok (.goto 987, 3) := by decide +kernel
theorem dL_law_336 : decode cL_law 336 = .ok (.aload_n 1, 1) := by decide +kernel
theorem dL_law_337 : decode cL_law 337 = .ok (.invokevirtual 104, 3) := by decide +kernel
theorem dL_law_340 : decode cL_law 340 = .ok (.aload_n 2, 1) := by decide +kernel
theorem dL_law_341 : decode cL_law 341 = .ok (.invokevirtual 107, 3) := by decide +kernel
theorem dL_law_344 : decode cL_law 344 = .ok (.if_icmp .eq 976, 3) := by decide +kernel
theorem dL_law_347 : decode cL_law 347 = .ok (.iconst 0, 1) := by decide +kernel
theorem dL_law_348 : decode cL_law 348 = .ok (.ireturn, 1) := by decide +kernel
theorem dL_law_349 : decode cL_law 349 = .ok (.aload_n 1, 1) := by decide +kernel
theorem dL_law_350 : decode cL_law 350 = .ok (.aload_n 0, 1) := by decide +kernel
theorem dL_law_351 : decode cL_law 351 = .ok (.iload 4, 2) := by decide +kernel
theorem dL_law_353 : decode cL_law 353 = .ok (.iconst 1, 1) := by decide +kernel
theorem dL_law_354 : decode cL_law 354 = .ok (.iadd, 1) := by decide +kernel
theorem dL_law_355 : decode cL_law 355 = .ok (.iaload, 1) := by decide +kernel
theorem dL_law_356 : decode cL_law 356 = .ok (.aload_n 3, 1) := by decide +kernel
theorem dL_law_357 : decode cL_law 357 = .ok (.invokestatic 108, 3) := by decide +kernel
theorem dL_law_360 : decode cL_law 360 = .ok (.istore 5, 2) := by decide +kernel
theorem dL_law_362 : decode cL_law 362 = .ok (.aload_n 2, 1) := by decide +kernel
theorem dL_law_363 : decode cL_law 363 = .ok (.aload_n 0, 1) := by decide +kernel
theorem dL_law_364 : decode cL_law 364 = .ok (.iload 4, 2) := by decide +kernel
theorem dL_law_366 : decode cL_law 366 = .ok (.iconst 1, 1) := by decide +kernel
theorem dL_law_367 : decode cL_law 367 = .ok (.iadd, 1) := by decide +kernel
theorem dL_law_368 : decode cL_law 368 = .ok (.iaload, 1) := by decide +kernel
theorem dL_law_369 : decode cL_law 369 = .ok (.invokevirtual 110, 3) := by decide +kernel
theorem dL_law_372 : decode cL_law 372 = .ok (.istore 6, 2) := by decide +kernel
theorem dL_law_374 : decode cL_law 374 = .ok (.aload_n 2, 1) := by decide +kernel
theorem dL_law_375 : decode cL_law 375 = .ok (.invokevirtual 94, 3) := by decide +kernel
theorem dL_law_378 : decode cL_law 378 = .ok (.iload 5, 2) := by decide +kernel
theorem dL_law_380 : decode cL_law 380 = .ok (.if_icmp .eq 5, 3) := by decide +kernel
theorem dL_law_383 : decode cL_law 383 = .ok (.iconst 0, 1) := by decide +kernel
theorem dL_law_384 : decode cL_law 384 = .ok (.ireturn, 1) := by decide +kernel
theorem dL_law_385 : decode cL_law 385 = .ok (.iload 5, 2) := by decide +kernel
theorem dL_law_387 : decode cL_law 387 = .ok (.ifCond .ne 22, 3) := by decide +kernel
theorem dL_law_390 : decode cL_law 390 = .ok (.aload_n 3, 1) := by decide +kernel
theorem dL_law_391 : decode cL_law 391 = .ok (.iconst 0, 1) := by decide +kernel
theorem dL_law_392 : decode cL_law 392 = .ok (.laload, 1) := by decide +kernel
theorem dL_law_393 : decode cL_law 393 = .ok (.iload 6, 2) := by decide +kernel
theorem dL_law_395 : decode cL_law 395 = .ok (.ifCond .eq 7, 3) := by decide +kernel
theorem dL_law_398 : decode cL_law 398 = .ok (.lconst 1, 1) := by decide +kernel
theorem dL_law_399 : decode cL_law 399 = .ok (.goto 4, 3) := by decide +kernel
theorem dL_law_402 : decode cL_law 402 = .ok (.lconst 0, 1) := by decide +kernel
theorem dL_law_403 : decode cL_law 403 = .ok (.lcmp, 1) := by decide +kernel
theorem dL_law_404 : decode cL_law 404 = .ok (.ifCond .eq 5, 3) := by decide +kernel
theorem dL_law_407 : decode cL_law 407 = .ok (.iconst 0, 1) := by decide +kernel
theorem dL_law_408 : decode cL_law 408 = .ok (.ireturn, 1) := by decide +kernel
theorem dL_law_409 : decode cL_law 409 = .ok (.goto 911, 3) := by decide +kernel
theorem dL_law_412 : decode cL_law 412 = .ok (.aload_n 1, 1) := by decide +kernel
theorem dL_law_413 : decode cL_law 413 = .ok (.aload_n 0, 1) := by decide +kernel
theorem dL_law_414 : decode cL_law 414 = .ok (.iload 4, 2) := by decide +kernel
theorem dL_law_416 : decode cL_law 416 = .ok (.iconst 1, 1) := by decide +kernel
theorem dL_law_417 : decode cL_law 417 = .ok (.iadd, 1) := by decide +kernel
theorem dL_law_418 : decode cL_law 418 = .ok (.iaload, 1) := by decide +kernel
theorem dL_law_419 : decode cL_law 419 = .ok (.aload_n 3, 1) := by decide +kernel
theorem dL_law_420 : decode cL_law 420 = .ok (.invokestatic 111, 3) := by decide +kernel
theorem dL_law_423 : decode cL_law 423 = .ok (.istore 5, 2) := by decide +kernel
theorem dL_law_425 : decode cL_law 425 = .ok (.aload_n 2, 1) := by decide +kernel
theorem dL_law_426 : decode cL_law 426 = .ok (.aload_n 0, 1) := by decide +kernel
theorem dL_law_427 : decode cL_law 427 = .ok (.iload 4, 2) := by decide +kernel
theorem dL_law_429 : decode cL_law 429 = .ok (.iconst 1, 1) := by decide +kernel
theorem dL_law_430 : decode cL_law 430 = .ok (.iadd, 1) := by decide +kernel
theorem dL_law_431 : decode cL_law 431 = .ok (.iaload, 1) := by decide +kernel
theorem dL_law_432 : decode cL_law 432 = .ok (.invokevirtual 113, 3) := by decide +kernel
theorem dL_law_435 : decode cL_law 435 = .ok (.istore 6, 2) := by decide +kernel
theorem dL_law_437 : decode cL_law 437 = .ok (.aload_n 2, 1) := by decide +kernel
theorem dL_law_438 : decode cL_law 438 = .ok (.invokevirtual 94, 3) := by decide +kernel
theorem dL_law_441 : decode cL_law 441 = .ok (.iload 5, 2) := by decide +kernel
theorem dL_law_443 : decode cL_law 443 = .ok (.if_icmp .eq 5, 3) := by decide +kernel
theorem dL_law_446 : decode cL_law 446 = .ok (.iconst 0, 1) := by decide +kernel
theorem dL_law_447 : decode cL_law 447 = .ok (.ireturn, 1) := by decide +kernel
theorem dL_law_448 : decode cL_law 448 = .ok (.iload 5, 2) := by decide +kernel
theorem dL_law_450 : decode cL_law 450 = .ok (.ifCond .ne 15, 3) := by decide +kernel
theorem dL_law_453 : decode cL_law 453 = .ok (.aload_n 3, 1) := by decide +kernel
theorem dL_law_454 : decode cL_law 454 = .ok (.iconst 0, 1) := by decide +kernel
theorem dL_law_455 : decode cL_law 455 = .ok (.laload, 1) := by decide +kernel
theorem dL_law_456 : decode cL_law 456 = .ok (.iload 6, 2) := by decide +kernel
theorem dL_law_458 : decode cL_law 458 = .ok (.i2l, 1) := by decide +kernel
theorem dL_law_459 : decode cL_law 459 = .ok (.lcmp, 1) := by decide +kernel
theorem dL_law_460 : decode cL_law 460 = .ok (.ifCond .eq 5, 3) := by decide +kernel
theorem dL_law_463 : decode cL_law 463 = .ok (.iconst 0, 1) := by decide +kernel
theorem dL_law_464 : decode cL_law 464 = .ok (.ireturn, 1) := by decide +kernel
theorem dL_law_465 : decode cL_law 465 = .ok (.goto 855, 3) := by decide +kernel
theorem dL_law_468 : decode cL_law 468 = .ok (.aload_n 1, 1) := by decide +kernel
theorem dL_law_469 : decode cL_law 469 = .ok (.aload_n 0, 1) := by decide +kernel
theorem dL_law_470 : decode cL_law 470 = .ok (.iload 4, 2) := by decide +kernel
theorem dL_law_472 : decode cL_law 472 = .ok (.iconst 1, 1) := by decide +kernel
theorem dL_law_473 : decode cL_law 473 = .ok (.iadd, 1) := by decide +kernel
theorem dL_law_474 : decode cL_law 474 = .ok (.iaload, 1) := by decide +kernel
theorem dL_law_475 : decode cL_law 475 = .ok (.aload_n 0, 1) := by decide +kernel
theorem dL_law_476 : decode cL_law 476 = .ok (.iload 4, 2) := by decide +kernel
theorem dL_law_478 : decode cL_law 478 = .ok (.iconst 2, 1) := by decide +kernel
theorem dL_law_479 : decode cL_law 479 = .ok (.iadd, 1) := by decide +kernel
theorem dL_law_480 : decode cL_law 480 = .ok (.iaload, 1) := by decide +kernel
theorem dL_law_481 : decode cL_law 481 = .ok (.aload_n 3, 1) := by decide +kernel
theorem dL_law_482 : decode cL_law 482 = .ok (.invokestatic 114, 3) := by decide +kernel
theorem dL_law_485 : decode cL_law 485 = .ok (.istore 5, 2) := by decide +kernel
theorem dL_law_487 : decode cL_law 487 = .ok (.aload_n 2, 1) := by decide +kernel
theorem dL_law_488 : decode cL_law 488 = .ok (.aload_n 0, 1) := by decide +kernel
theorem dL_law_489 : decode cL_law 489 = .ok (.iload 4, 2) := by decide +kernel
theorem dL_law_491 : decode cL_law 491 = .ok (.iconst 1, 1) := by decide +kernel
theorem dL_law_492 : decode cL_law 492 = .ok (.iadd, 1) := by decide +kernel
theorem dL_law_493 : decode cL_law 493 = .ok (.iaload, 1) := by decide +kernel
theorem dL_law_494 : decode cL_law 494 = .ok (.aload_n 0, 1) := by decide +kernel
theorem dL_law_495 : decode cL_law 495 = .ok (.iload 4, 2) := by decide +kernel
theorem dL_law_497 : decode cL_law 497 = .ok (.iconst 2, 1) := by decide +kernel
theorem dL_law_498 : decode cL_law 498 = .ok (.iadd, 1) := by decide +kernel
theorem dL_law_499 : decode cL_law 499 = .ok (.iaload, 1) := by decide +kernel
theorem dL_law_500 : decode cL_law 500 = .ok (.invokevirtual 117, 3) := by decide +kernel
theorem dL_law_503 : decode cL_law 503 = .ok (.istore 6, 2) := by decide +kernel
theorem dL_law_505 : decode cL_law 505 = .ok (.aload_n 2, 1) := by decide +kernel
theorem dL_law_506 : decode cL_law 506 = .ok (.invokevirtual 94, 3) := by decide +kernel
theorem dL_law_509 : decode cL_law 509 = .ok (.iload 5, 2) := by decide +kernel
theorem dL_law_511 : decode cL_law 511 = .ok (.if_icmp .eq 5, 3) := by decide +kernel
theorem dL_law_514 : decode cL_law 514 = .ok (.iconst 0, 1) := by decide +kernel
theorem dL_law_515 : decode cL_law 515 = .ok (.ireturn, 1) := by decide +kernel
theorem dL_law_516 : decode cL_law 516 = .ok (.iload 5, 2) := by decide +kernel
theorem dL_law_518 : decode cL_law 518 = .ok (.ifCond .ne 15, 3) := by decide +kernel
theorem dL_law_521 : decode cL_law 521 = .ok (.aload_n 3, 1) := by decide +kernel
theorem dL_law_522 : decode cL_law 522 = .ok (.iconst 0, 1) := by decide +kernel
theorem dL_law_523 : decode cL_law 523 = .ok (.laload, 1) := by decide +kernel
theorem dL_law_524 : decode cL_law 524 = .ok (.iload 6, 2) := by decide +kernel
theorem dL_law_526 : decode cL_law 526 = .ok (.i2l, 1) := by decide +kernel
theorem dL_law_527 : decode cL_law 527 = .ok (.lcmp, 1) := by decide +kernel
theorem dL_law_528 : decode cL_law 528 = .ok (.ifCond .eq 5, 3) := by decide +kernel
theorem dL_law_531 : decode cL_law 531 = .ok (.iconst 0, 1) := by decide +kernel
theorem dL_law_532 : decode cL_law 532 = .ok (.ireturn, 1) := by decide +kernel
theorem dL_law_533 : decode cL_law 533 = .ok (.goto 787, 3) := by decide +kernel
theorem dL_law_536 : decode cL_law 536 = .ok (.aload_n 1, 1) := by decide +kernel
theorem dL_law_537 : decode cL_law 537 = .ok (.invokestatic 118, 3) := by decide +kernel
theorem dL_law_540 : decode cL_law 540 = .ok (.istore 5, 2) := by decide +kernel
theorem dL_law_542 : decode cL_law 542 = .ok (.aload_n 2, 1) := by decide +kernel
theorem dL_law_543 : decode cL_law 543 = .ok (.invokevirtual 121, 3) := by decide +kernel
theorem dL_law_546 : decode cL_law 546 = .ok (.aload_n 2, 1) := by decide +kernel
theorem dL_law_547 : decode cL_law 547 = .ok (.invokevirtual 94, 3) := by decide +kernel
theorem dL_law_550 : decode cL_law 550 = .ok (.iload 5, 2) := by decide +kernel
theorem dL_law_552 : decode cL_law 552 = .ok (.if_icmp .eq 5, 3) := by decide +kernel
theorem dL_law_555 : decode cL_law 555 = .ok (.iconst 0, 1) := by decide +kernel
theorem dL_law_556 : decode cL_law 556 = .ok (.ireturn, 1) := by decide +kernel
theorem dL_law_557 : decode cL_law 557 = .ok (.goto 763, 3) := by decide +kernel
theorem dL_law_560 : decode cL_law 560 = .ok (.aload_n 1, 1) := by decide +kernel
theorem dL_law_561 : decode cL_law 561 = .ok (.invokevirtual 122, 3) := by decide +kernel
theorem dL_law_564 : decode cL_law 564 = .ok (.aload_n 2, 1) := by decide +kernel
theorem dL_law_565 : decode cL_law 565 = .ok (.invokevirtual 126, 3) := by decide +kernel
theorem dL_law_568 : decode cL_law 568 = .ok (.if_icmp .eq 752, 3) := by decide +kernel
theorem dL_law_571 : decode cL_law 571 = .ok (.iconst 0, 1) := by decide +kernel
theorem dL_law_572 : decode cL_law 572 = .ok (.ireturn, 1) := by decide +kernel
theorem dL_law_573 : decode cL_law 573 = .ok (.aload_n 1, 1) := by decide +kernel
theorem dL_law_574 : decode cL_law 574 = .ok (.aload_n 0, 1) := by decide +kernel
theorem dL_law_575 : decode cL_law 575 = .ok (.iload 4, 2) := by decide +kernel
theorem dL_law_577 : decode cL_law 577 = .ok (.iconst 1, 1) := by decide +kernel
theorem dL_law_578 : decode cL_law 578 = .ok (.iadd, 1) := by decide +kernel
theorem dL_law_579 : decode cL_law 579 = .ok (.iaload, 1) := by decide +kernel
theorem dL_law_580 : decode cL_law 580 = .ok (.aload_n 3, 1) := by decide +kernel
theorem dL_law_581 : decode cL_law 581 = .ok (.invokestatic 127, 3) := by decide +kernel
theorem dL_law_584 : decode cL_law 584 = .ok (.istore 5, 2) := by decide +kernel
theorem dL_law_586 : decode cL_law 586 = .ok (.aload_n 2, 1) := by decide +kernel
theorem dL_law_587 : decode cL_law 587 = .ok (.aload_n 0, 1) := by decide +kernel
theorem dL_law_588 : decode cL_law 588 = .ok (.iload 4, 2) := by decide +kernel
theorem dL_law_590 : decode cL_law 590 = .ok (.iconst 1, 1) := by decide +kernel
theorem dL_law_591 : decode cL_law 591 = .ok (.iadd, 1) := by decide +kernel
theorem dL_law_592 : decode cL_law 592 = .ok (.iaload, 1) := by decide +kernel
theorem dL_law_593 : decode cL_law 593 = .ok (.invokevirtual 129, 3) := by decide +kernel
theorem dL_law_596 : decode cL_law 596 = .ok (.istore 6, 2) := by decide +kernel
theorem dL_law_598 : decode cL_law 598 = .ok (.aload_n 2, 1) := by decide +kernel
theorem dL_law_599 : decode cL_law 599 = .ok (.invokevirtual 94, 3) := by decide +kernel
theorem dL_law_602 : decode cL_law 602 = .ok (.iload 5, 2) := by decide +kernel
theorem dL_law_604 : decode cL_law 604 = .ok (.if_icmp .eq 5, 3) := by decide +kernel
theorem dL_law_607 : decode cL_law 607 = .ok (.iconst 0, 1) := by decide +kernel
theorem dL_law_608 : decode cL_law 608 = .ok (.ireturn, 1) := by decide +kernel
theorem dL_law_609 : decode cL_law 609 = .ok (.iload 5, 2) := by decide +kernel
theorem dL_law_611 : decode cL_law 611 = .ok (.ifCond .ne 15, 3) := by decide +kernel
theorem dL_law_614 : decode cL_law 614 = .ok (.aload_n 3, 1) := by decide +kernel
theorem dL_law_615 : decode cL_law 615 = .ok (.iconst 0, 1) := by decide +kernel
theorem dL_law_616 : decode cL_law 616 = .ok (.laload, 1) := by decide +kernel
theorem dL_law_617 : decode cL_law 617 = .ok (.iload 6, 2) := by decide +kernel
theorem dL_law_619 : decode cL_law 619 = .ok (.i2l, 1) := by decide +kernel
theorem dL_law_620 : decode cL_law 620 = .ok (.lcmp, 1) := by decide +kernel
theorem dL_law_621 : decode cL_law 621 = .ok (.ifCond .eq 5, 3) := by decide +kernel
theorem dL_law_624 : decode cL_law 624 = .ok (.iconst 0, 1) := by decide +kernel
theorem dL_law_625 : decode cL_law 625 = .ok (.ireturn, 1) := by decide +kernel
theorem dL_law_626 : decode cL_law 626 = .ok (.goto 694, 3) := by decide +kernel
theorem dL_law_629 : decode cL_law 629 = .ok (.aload_n 1, 1) := by decide +kernel
theorem dL_law_630 : decode cL_law 630 = .ok (.aload_n 0, 1) := by decide +kernel
theorem dL_law_631 : decode cL_law 631 = .ok (.iload 4, 2) := by decide +kernel
theorem dL_law_633 : decode cL_law 633 = .ok (.iconst 1, 1) := by decide +kernel
theorem dL_law_634 : decode cL_law 634 = .ok (.iadd, 1) := by decide +kernel
theorem dL_law_635 : decode cL_law 635 = .ok (.iaload, 1) := by decide +kernel
theorem dL_law_636 : decode cL_law 636 = .ok (.aload_n 3, 1) := by decide +kernel
theorem dL_law_637 : decode cL_law 637 = .ok (.invokestatic 130, 3) := by decide +kernel
theorem dL_law_640 : decode cL_law 640 = .ok (.istore 5, 2) := by decide +kernel
theorem dL_law_642 : decode cL_law 642 = .ok (.aload_n 2, 1) := by decide +kernel
theorem dL_law_643 : decode cL_law 643 = .ok (.aload_n 0, 1) := by decide +kernel
theorem dL_law_644 : decode cL_law 644 = .ok (.iload 4, 2) := by decide +kernel
theorem dL_law_646 : decode cL_law 646 = .ok (.iconst 1, 1) := by decide +kernel
theorem dL_law_647 : decode cL_law 647 = .ok (.iadd, 1) := by decide +kernel
theorem dL_law_648 : decode cL_law 648 = .ok (.iaload, 1) := by decide +kernel
theorem dL_law_649 : decode cL_law 649 = .ok (.invokevirtual 132, 3) := by decide +kernel
theorem dL_law_652 : decode cL_law 652 = .ok (.istore 6, 2) := by decide +kernel
theorem dL_law_654 : decode cL_law 654 = .ok (.aload_n 2, 1) := by decide +kernel
theorem dL_law_655 : decode cL_law 655 = .ok (.invokevirtual 94, 3) := by decide +kernel
theorem dL_law_658 : decode cL_law 658 = .ok (.iload 5, 2) := by decide +kernel
theorem dL_law_660 : decode cL_law 660 = .ok (.if_icmp .eq 5, 3) := by decide +kernel
theorem dL_law_663 : decode cL_law 663 = .ok (.iconst 0, 1) := by decide +kernel
theorem dL_law_664 : decode cL_law 664 = .ok (.ireturn, 1) := by decide +kernel
theorem dL_law_665 : decode cL_law 665 = .ok (.iload 5, 2) := by decide +kernel
theorem dL_law_667 : decode cL_law 667 = .ok (.ifCond .ne 15, 3) := by decide +kernel
theorem dL_law_670 : decode cL_law 670 = .ok (.aload_n 3, 1) := by decide +kernel
theorem dL_law_671 : decode cL_law 671 = .ok (.iconst 0, 1) := by decide +kernel
theorem dL_law_672 : decode cL_law 672 = .ok (.laload, 1) := by decide +kernel
theorem dL_law_673 : decode cL_law 673 = .ok (.iload 6, 2) := by decide +kernel
theorem dL_law_675 : decode cL_law 675 = .ok (.i2l, 1) := by decide +kernel
theorem dL_law_676 : decode cL_law 676 = .ok (.lcmp, 1) := by decide +kernel
theorem dL_law_677 : decode cL_law 677 = .ok (.ifCond .eq 5, 3) := by decide +kernel
theorem dL_law_680 : decode cL_law 680 = .ok (.iconst 0, 1) := by decide +kernel
theorem dL_law_681 : decode cL_law 681 = .ok (.ireturn, 1) := by decide +kernel
theorem dL_law_682 : decode cL_law 682 = .ok (.goto 638, 3) := by decide +kernel
theorem dL_law_685 : decode cL_law 685 = .ok (.aload_n 1, 1) := by decide +kernel
theorem dL_law_686 : decode cL_law 686 = .ok (.aload_n 0, 1) := by decide +kernel
theorem dL_law_687 : decode cL_law 687 = .ok (.iload 4, 2) := by decide +kernel
theorem dL_law_689 : decode cL_law 689 = .ok (.iconst 1, 1) := by decide +kernel
theorem dL_law_690 : decode cL_law 690 = .ok (.iadd, 1) := by decide +kernel
theorem dL_law_691 : decode cL_law 691 = .ok (.iaload, 1) := by decide +kernel
theorem dL_law_692 : decode cL_law 692 = .ok (.aload_n 0, 1) := by decide +kernel
theorem dL_law_693 : decode cL_law 693 = .ok (.iload 4, 2) := by decide +kernel
theorem dL_law_695 : decode cL_law 695 = .ok (.iconst 2, 1) := by decide +kernel
theorem dL_law_696 : decode cL_law 696 = .ok (.iadd, 1) := by decide +kernel
theorem dL_law_697 : decode cL_law 697 = .ok (.iaload, 1) := by decide +kernel
theorem dL_law_698 : decode cL_law 698 = .ok (.aload_n 3, 1) := by decide +kernel
theorem dL_law_699 : decode cL_law 699 = .ok (.invokestatic 133, 3) := by decide +kernel
theorem dL_law_702 : decode cL_law 702 = .ok (.istore 5, 2) := by decide +kernel
theorem dL_law_704 : decode cL_law 704 = .ok (.aload_n 2, 1) := by decide +kernel
theorem dL_law_705 : decode cL_law 705 = .ok (.aload_n 0, 1) := by decide +kernel
theorem dL_law_706 : decode cL_law 706 = .ok (.iload 4, 2) := by decide +kernel
theorem dL_law_708 : decode cL_law 708 = .ok (.iconst 1, 1) := by decide +kernel
theorem dL_law_709 : decode cL_law 709 = .ok (.iadd, 1) := by decide +kernel
theorem dL_law_710 : decode cL_law 710 = .ok (.iaload, 1) := by decide +kernel
theorem dL_law_711 : decode cL_law 711 = .ok (.aload_n 0, 1) := by decide +kernel
theorem dL_law_712 : decode cL_law 712 = .ok (.iload 4, 2) := by decide +kernel
theorem dL_law_714 : decode cL_law 714 = .ok (.iconst 2, 1) := by decide +kernel
theorem dL_law_715 : decode cL_law 715 = .ok (.iadd, 1) := by decide +kernel
theorem dL_law_716 : decode cL_law 716 = .ok (.iaload, 1) := by decide +kernel
theorem dL_law_717 : decode cL_law 717 = .ok (.invokevirtual 135, 3) := by decide +kernel
theorem dL_law_720 : decode cL_law 720 = .ok (.istore 6, 2) := by decide +kernel
theorem dL_law_722 : decode cL_law 722 = .ok (.aload_n 2, 1) := by decide +kernel
theorem dL_law_723 : decode cL_law 723 = .ok (.invokevirtual 94, 3) := by decide +kernel
theorem dL_law_726 : decode cL_law 726 = .ok (.iload 5, 2) := by decide +kernel
theorem dL_law_728 : decode cL_law 728 = .ok (.if_icmp .eq 5, 3) := by decide +kernel
theorem dL_law_731 : decode cL_law 731 = .ok (.iconst 0, 1) := by decide +kernel
theorem dL_law_732 : decode cL_law 732 = .ok (.ireturn, 1) := by decide +kernel
theorem dL_law_733 : decode cL_law 733 = .ok (.iload 5, 2) := by decide +kernel
theorem dL_law_735 : decode cL_law 735 = .ok (.ifCond .ne 15, 3) := by decide +kernel
theorem dL_law_738 : decode cL_law 738 = .ok (.aload_n 3, 1) := by decide +kernel
theorem dL_law_739 : decode cL_law 739 = .ok (.iconst 0, 1) := by decide +kernel
theorem dL_law_740 : decode cL_law 740 = .ok (.laload, 1) := by decide +kernel
theorem dL_law_741 : decode cL_law 741 = .ok (.iload 6, 2) := by decide +kernel
theorem dL_law_743 : decode cL_law 743 = .ok (.i2l, 1) := by decide +kernel
theorem dL_law_744 : decode cL_law 744 = .ok (.lcmp, 1) := by decide +kernel
theorem dL_law_745 : decode cL_law 745 = .ok (.ifCond .eq 5, 3) := by decide +kernel
theorem dL_law_748 : decode cL_law 748 = .ok (.iconst 0, 1) := by decide +kernel
theorem dL_law_749 : decode cL_law 749 = .ok (.ireturn, 1) := by decide +kernel
theorem dL_law_750 : decode cL_law 750 = .ok (.goto 570, 3) := by decide +kernel
theorem dL_law_753 : decode cL_law 753 = .ok (.aload_n 1, 1) := by decide +kernel
theorem dL_law_754 : decode cL_law 754 = .ok (.aload_n 0, 1) := by decide +kernel
theorem dL_law_755 : decode cL_law 755 = .ok (.iload 4, 2) := by decide +kernel
theorem dL_law_757 : decode cL_law 757 = .ok (.iconst 1, 1) := by decide +kernel
theorem dL_law_758 : decode cL_law 758 = .ok (.iadd, 1) := by decide +kernel
theorem dL_law_759 : decode cL_law 759 = .ok (.iaload, 1) := by decide +kernel
theorem dL_law_760 : decode cL_law 760 = .ok (.aload_n 3, 1) := by decide +kernel
theorem dL_law_761 : decode cL_law 761 = .ok (.invokestatic 136, 3) := by decide +kernel
theorem dL_law_764 : decode cL_law 764 = .ok (.istore 5, 2) := by decide +kernel
theorem dL_law_766 : decode cL_law 766 = .ok (.aload_n 2, 1) := by decide +kernel
theorem dL_law_767 : decode cL_law 767 = .ok (.aload_n 0, 1) := by decide +kernel
theorem dL_law_768 : decode cL_law 768 = .ok (.iload 4, 2) := by decide +kernel
theorem dL_law_770 : decode cL_law 770 = .ok (.iconst 1, 1) := by decide +kernel
theorem dL_law_771 : decode cL_law 771 = .ok (.iadd, 1) := by decide +kernel
theorem dL_law_772 : decode cL_law 772 = .ok (.iaload, 1) := by decide +kernel
theorem dL_law_773 : decode cL_law 773 = .ok (.invokevirtual 138, 3) := by decide +kernel
theorem dL_law_776 : decode cL_law 776 = .ok (.istore 6, 2) := by decide +kernel
theorem dL_law_778 : decode cL_law 778 = .ok (.aload_n 2, 1) := by decide +kernel
theorem dL_law_779 : decode cL_law 779 = .ok (.invokevirtual 94, 3) := by decide +kernel
theorem dL_law_782 : decode cL_law 782 = .ok (.iload 5, 2) := by decide +kernel
theorem dL_law_784 : decode cL_law 784 = .ok (.if_icmp .eq 5, 3) := by decide +kernel
theorem dL_law_787 : decode cL_law 787 = .ok (.iconst 0, 1) := by decide +kernel
theorem dL_law_788 : decode cL_law 788 = .ok (.ireturn, 1) := by decide +kernel
theorem dL_law_789 : decode cL_law 789 = .ok (.iload 5, 2) := by decide +kernel
theorem dL_law_791 : decode cL_law 791 = .ok (.ifCond .ne 15, 3) := by decide +kernel
theorem dL_law_794 : decode cL_law 794 = .ok (.aload_n 3, 1) := by decide +kernel
theorem dL_law_795 : decode cL_law 795 = .ok (.iconst 0, 1) := by decide +kernel
theorem dL_law_796 : decode cL_law 796 = .ok (.laload, 1) := by decide +kernel
theorem dL_law_797 : decode cL_law 797 = .ok (.iload 6, 2) := by decide +kernel
theorem dL_law_799 : decode cL_law 799 = .ok (.i2l, 1) := by decide +kernel
theorem dL_law_800 : decode cL_law 800 = .ok (.lcmp, 1) := by decide +kernel
theorem dL_law_801 : decode cL_law 801 = .ok (.ifCond .eq 5, 3) := by decide +kernel
theorem dL_law_804 : decode cL_law 804 = .ok (.iconst 0, 1) := by decide +kernel
theorem dL_law_805 : decode cL_law 805 = .ok (.ireturn, 1) := by decide +kernel
theorem dL_law_806 : decode cL_law 806 = .ok (.goto 514, 3) := by decide +kernel
theorem dL_law_809 : decode cL_law 809 = .ok (.aload_n 1, 1) := by decide +kernel
theorem dL_law_810 : decode cL_law 810 = .ok (.aload_n 0, 1) := by decide +kernel
theorem dL_law_811 : decode cL_law 811 = .ok (.iload 4, 2) := by decide +kernel
theorem dL_law_813 : decode cL_law 813 = .ok (.iconst 1, 1) := by decide +kernel
theorem dL_law_814 : decode cL_law 814 = .ok (.iadd, 1) := by decide +kernel
theorem dL_law_815 : decode cL_law 815 = .ok (.iaload, 1) := by decide +kernel
theorem dL_law_816 : decode cL_law 816 = .ok (.aload_n 3, 1) := by decide +kernel
theorem dL_law_817 : decode cL_law 817 = .ok (.invokestatic 139, 3) := by decide +kernel
theorem dL_law_820 : decode cL_law 820 = .ok (.istore 5, 2) := by decide +kernel
theorem dL_law_822 : decode cL_law 822 = .ok (.aload_n 2, 1) := by decide +kernel
theorem dL_law_823 : decode cL_law 823 = .ok (.aload_n 0, 1) := by decide +kernel
theorem dL_law_824 : decode cL_law 824 = .ok (.iload 4, 2) := by decide +kernel
theorem dL_law_826 : decode cL_law 826 = .ok (.iconst 1, 1) := by decide +kernel
theorem dL_law_827 : decode cL_law 827 = .ok (.iadd, 1) := by decide +kernel
theorem dL_law_828 : decode cL_law 828 = .ok (.iaload, 1) := by decide +kernel
theorem dL_law_829 : decode cL_law 829 = .ok (.invokevirtual 141, 3) := by decide +kernel
theorem dL_law_832 : decode cL_law 832 = .ok (.istore 6, 2) := by decide +kernel
theorem dL_law_834 : decode cL_law 834 = .ok (.aload_n 2, 1) := by decide +kernel
theorem dL_law_835 : decode cL_law 835 = .ok (.invokevirtual 94, 3) := by decide +kernel
theorem dL_law_838 : decode cL_law 838 = .ok (.iload 5, 2) := by decide +kernel
theorem dL_law_840 : decode cL_law 840 = .ok (.if_icmp .eq 5, 3) := by decide +kernel
theorem dL_law_843 : decode cL_law 843 = .ok (.iconst 0, 1) := by decide +kernel
theorem dL_law_844 : decode cL_law 844 = .ok (.ireturn, 1) := by decide +kernel
theorem dL_law_845 : decode cL_law 845 = .ok (.iload 5, 2) := by decide +kernel
theorem dL_law_847 : decode cL_law 847 = .ok (.ifCond .ne 15, 3) := by decide +kernel
theorem dL_law_850 : decode cL_law 850 = .ok (.aload_n 3, 1) := by decide +kernel
theorem dL_law_851 : decode cL_law 851 = .ok (.iconst 0, 1) := by decide +kernel
theorem dL_law_852 : decode cL_law 852 = .ok (.laload, 1) := by decide +kernel
theorem dL_law_853 : decode cL_law 853 = .ok (.iload 6, 2) := by decide +kernel
theorem dL_law_855 : decode cL_law 855 = .ok (.i2l, 1) := by decide +kernel
theorem dL_law_856 : decode cL_law 856 = .ok (.lcmp, 1) := by decide +kernel
theorem dL_law_857 : decode cL_law 857 = .ok (.ifCond .eq 5, 3) := by decide +kernel
theorem dL_law_860 : decode cL_law 860 = .ok (.iconst 0, 1) := by decide +kernel
theorem dL_law_861 : decode cL_law 861 = .ok (.ireturn, 1) := by decide +kernel
theorem dL_law_862 : decode cL_law 862 = .ok (.goto 458, 3) := by decide +kernel
theorem dL_law_865 : decode cL_law 865 = .ok (.aload_n 1, 1) := by decide +kernel
theorem dL_law_866 : decode cL_law 866 = .ok (.aload_n 3, 1) := by decide +kernel
theorem dL_law_867 : decode cL_law 867 = .ok (.invokestatic 142, 3) := by decide +kernel
theorem dL_law_870 : decode cL_law 870 = .ok (.istore 5, 2) := by decide +kernel
theorem dL_law_872 : decode cL_law 872 = .ok (.aload_n 2, 1) := by decide +kernel
theorem dL_law_873 : decode cL_law 873 = .ok (.invokevirtual 145, 3) := by decide +kernel
theorem dL_law_876 : decode cL_law 876 = .ok (.istore 6, 2) := by decide +kernel
theorem dL_law_878 : decode cL_law 878 = .ok (.aload_n 2, 1) := by decide +kernel
theorem dL_law_879 : decode cL_law 879 = .ok (.invokevirtual 94, 3) := by decide +kernel
theorem dL_law_882 : decode cL_law 882 = .ok (.iload 5, 2) := by decide +kernel
theorem dL_law_884 : decode cL_law 884 = .ok (.if_icmp .eq 5, 3) := by decide +kernel
theorem dL_law_887 : decode cL_law 887 = .ok (.iconst 0, 1) := by decide +kernel
theorem dL_law_888 : decode cL_law 888 = .ok (.ireturn, 1) := by decide +kernel
theorem dL_law_889 : decode cL_law 889 = .ok (.iload 5, 2) := by decide +kernel
theorem dL_law_891 : decode cL_law 891 = .ok (.ifCond .ne 15, 3) := by decide +kernel
theorem dL_law_894 : decode cL_law 894 = .ok (.aload_n 3, 1) := by decide +kernel
theorem dL_law_895 : decode cL_law 895 = .ok (.iconst 0, 1) := by decide +kernel
theorem dL_law_896 : decode cL_law 896 = .ok (.laload, 1) := by decide +kernel
theorem dL_law_897 : decode cL_law 897 = .ok (.iload 6, 2) := by decide +kernel
theorem dL_law_899 : decode cL_law 899 = .ok (.i2l, 1) := by decide +kernel
theorem dL_law_900 : decode cL_law 900 = .ok (.lcmp, 1) := by decide +kernel
theorem dL_law_901 : decode cL_law 901 = .ok (.ifCond .eq 5, 3) := by decide +kernel
theorem dL_law_904 : decode cL_law 904 = .ok (.iconst 0, 1) := by decide +kernel
theorem dL_law_905 : decode cL_law 905 = .ok (.ireturn, 1) := by decide +kernel
theorem dL_law_906 : decode cL_law 906 = .ok (.goto 414, 3) := by decide +kernel
theorem dL_law_909 : decode cL_law 909 = .ok (.aload_n 1, 1) := by decide +kernel
theorem dL_law_910 : decode cL_law 910 = .ok (.aload_n 3, 1) := by decide +kernel
theorem dL_law_911 : decode cL_law 911 = .ok (.invokestatic 146, 3) := by decide +kernel
theorem dL_law_914 : decode cL_law 914 = .ok (.istore 5, 2) := by decide +kernel
theorem dL_law_916 : decode cL_law 916 = .ok (.aload_n 2, 1) := by decide +kernel
theorem dL_law_917 : decode cL_law 917 = .ok (.invokevirtual 148, 3) := by decide +kernel
theorem dL_law_920 : decode cL_law 920 = .ok (.istore 6, 2) := by decide +kernel
theorem dL_law_922 : decode cL_law 922 = .ok (.aload_n 2, 1) := by decide +kernel
theorem dL_law_923 : decode cL_law 923 = .ok (.invokevirtual 94, 3) := by decide +kernel
theorem dL_law_926 : decode cL_law 926 = .ok (.iload 5, 2) := by decide +kernel
theorem dL_law_928 : decode cL_law 928 = .ok (.if_icmp .eq 5, 3) := by decide +kernel
theorem dL_law_931 : decode cL_law 931 = .ok (.iconst 0, 1) := by decide +kernel
theorem dL_law_932 : decode cL_law 932 = .ok (.ireturn, 1) := by decide +kernel
theorem dL_law_933 : decode cL_law 933 = .ok (.iload 5, 2) := by decide +kernel
theorem dL_law_935 : decode cL_law 935 = .ok (.ifCond .ne 15, 3) := by decide +kernel
theorem dL_law_938 : decode cL_law 938 = .ok (.aload_n 3, 1) := by decide +kernel
theorem dL_law_939 : decode cL_law 939 = .ok (.iconst 0, 1) := by decide +kernel
theorem dL_law_940 : decode cL_law 940 = .ok (.laload, 1) := by decide +kernel
theorem dL_law_941 : decode cL_law 941 = .ok (.iload 6, 2) := by decide +kernel
theorem dL_law_943 : decode cL_law 943 = .ok (.i2l, 1) := by decide +kernel
theorem dL_law_944 : decode cL_law 944 = .ok (.lcmp, 1) := by decide +kernel
theorem dL_law_945 : decode cL_law 945 = .ok (.ifCond .eq 5, 3) := by decide +kernel
theorem dL_law_948 : decode cL_law 948 = .ok (.iconst 0, 1) := by decide +kernel
theorem dL_law_949 : decode cL_law 949 = .ok (.ireturn, 1) := by decide +kernel
theorem dL_law_950 : decode cL_law 950 = .ok (.goto 370, 3) := by decide +kernel
theorem dL_law_953 : decode cL_law 953 = .ok (.aload_n 1, 1) := by decide +kernel
theorem dL_law_954 : decode cL_law 954 = .ok (.aload_n 0, 1) := by decide +kernel
theorem dL_law_955 : decode cL_law 955 = .ok (.iload 4, 2) := by decide +kernel
theorem dL_law_957 : decode cL_law 957 = .ok (.iconst 1, 1) := by decide +kernel
theorem dL_law_958 : decode cL_law 958 = .ok (.iadd, 1) := by decide +kernel
theorem dL_law_959 : decode cL_law 959 = .ok (.iaload, 1) := by decide +kernel
theorem dL_law_960 : decode cL_law 960 = .ok (.aload_n 3, 1) := by decide +kernel
theorem dL_law_961 : decode cL_law 961 = .ok (.invokestatic 149, 3) := by decide +kernel
theorem dL_law_964 : decode cL_law 964 = .ok (.istore 5, 2) := by decide +kernel
theorem dL_law_966 : decode cL_law 966 = .ok (.aload_n 2, 1) := by decide +kernel
theorem dL_law_967 : decode cL_law 967 = .ok (.aload_n 0, 1) := by decide +kernel
theorem dL_law_968 : decode cL_law 968 = .ok (.iload 4, 2) := by decide +kernel
theorem dL_law_970 : decode cL_law 970 = .ok (.iconst 1, 1) := by decide +kernel
theorem dL_law_971 : decode cL_law 971 = .ok (.iadd, 1) := by decide +kernel
theorem dL_law_972 : decode cL_law 972 = .ok (.iaload, 1) := by decide +kernel
theorem dL_law_973 : decode cL_law 973 = .ok (.invokevirtual 151, 3) := by decide +kernel
theorem dL_law_976 : decode cL_law 976 = .ok (.istore 6, 2) := by decide +kernel
theorem dL_law_978 : decode cL_law 978 = .ok (.aload_n 2, 1) := by decide +kernel
theorem dL_law_979 : decode cL_law 979 = .ok (.invokevirtual 94, 3) := by decide +kernel
theorem dL_law_982 : decode cL_law 982 = .ok (.iload 5, 2) := by decide +kernel
theorem dL_law_984 : decode cL_law 984 = .ok (.if_icmp .eq 5, 3) := by decide +kernel
theorem dL_law_987 : decode cL_law 987 = .ok (.iconst 0, 1) := by decide +kernel
theorem dL_law_988 : decode cL_law 988 = .ok (.ireturn, 1) := by decide +kernel
theorem dL_law_989 : decode cL_law 989 = .ok (.iload 5, 2) := by decide +kernel
theorem dL_law_991 : decode cL_law 991 = .ok (.ifCond .ne 15, 3) := by decide +kernel
theorem dL_law_994 : decode cL_law 994 = .ok (.aload_n 3, 1) := by decide +kernel
theorem dL_law_995 : decode cL_law 995 = .ok (.iconst 0, 1) := by decide +kernel
theorem dL_law_996 : decode cL_law 996 = .ok (.laload, 1) := by decide +kernel
theorem dL_law_997 : decode cL_law 997 = .ok (.iload 6, 2) := by decide +kernel
theorem dL_law_999 : decode cL_law 999 = .ok (.i2l, 1) := by decide +kernel
theorem dL_law_1000 : decode cL_law 1000 = .ok (.lcmp, 1) := by decide +kernel
theorem dL_law_1001 : decode cL_law 1001 = .ok (.ifCond .eq 5, 3) := by decide +kernel
theorem dL_law_1004 : decode cL_law 1004 = .ok (.iconst 0, 1) := by decide +kernel
theorem dL_law_1005 : decode cL_law 1005 = .ok (.ireturn, 1) := by decide +kernel
theorem dL_law_1006 : decode cL_law 1006 = .ok (.goto 314, 3) := by decide +kernel
theorem dL_law_1009 : decode cL_law 1009 = .ok (.aload_n 1, 1) := by decide +kernel
theorem dL_law_1010 : decode cL_law 1010 = .ok (.aload_n 0, 1) := by decide +kernel
theorem dL_law_1011 : decode cL_law 1011 = .ok (.iload 4, 2) := by decide +kernel
theorem dL_law_1013 : decode cL_law 1013 = .ok (.iconst 1, 1) := by decide +kernel
theorem dL_law_1014 : decode cL_law 1014 = .ok (.iadd, 1) := by decide +kernel
theorem dL_law_1015 : decode cL_law 1015 = .ok (.iaload, 1) := by decide +kernel
theorem dL_law_1016 : decode cL_law 1016 = .ok (.aload_n 3, 1) := by decide +kernel
theorem dL_law_1017 : decode cL_law 1017 = .ok (.invokestatic 152, 3) := by decide +kernel
theorem dL_law_1020 : decode cL_law 1020 = .ok (.istore 5, 2) := by decide +kernel
theorem dL_law_1022 : decode cL_law 1022 = .ok (.aload_n 2, 1) := by decide +kernel
theorem dL_law_1023 : decode cL_law 1023 = .ok (.aload_n 0, 1) := by decide +kernel
theorem dL_law_1024 : decode cL_law 1024 = .ok (.iload 4, 2) := by decide +kernel
theorem dL_law_1026 : decode cL_law 1026 = .ok (.iconst 1, 1) := by decide +kernel
theorem dL_law_1027 : decode cL_law 1027 = .ok (.iadd, 1) := by decide +kernel
theorem dL_law_1028 : decode cL_law 1028 = .ok (.iaload, 1) := by decide +kernel
theorem dL_law_1029 : decode cL_law 1029 = .ok (.invokevirtual 154, 3) := by decide +kernel
theorem dL_law_1032 : decode cL_law 1032 = .ok (.istore 6, 2) := by decide +kernel
theorem dL_law_1034 : decode cL_law 1034 = .ok (.aload_n 2, 1) := by decide +kernel
theorem dL_law_1035 : decode cL_law 1035 = .ok (.invokevirtual 94, 3) := by decide +kernel
theorem dL_law_1038 : decode cL_law 1038 = .ok (.iload 5, 2) := by decide +kernel
theorem dL_law_1040 : decode cL_law 1040 = .ok (.if_icmp .eq 5, 3) := by decide +kernel
theorem dL_law_1043 : decode cL_law 1043 = .ok (.iconst 0, 1) := by decide +kernel
theorem dL_law_1044 : decode cL_law 1044 = .ok (.ireturn, 1) := by decide +kernel
theorem dL_law_1045 : decode cL_law 1045 = .ok (.iload 5, 2) := by decide +kernel
theorem dL_law_1047 : decode cL_law 1047 = .ok (.ifCond .ne 15, 3) := by decide +kernel
theorem dL_law_1050 : decode cL_law 1050 = .ok (.aload_n 3, 1) := by decide +kernel
theorem dL_law_1051 : decode cL_law 1051 = .ok (.iconst 0, 1) := by decide +kernel
theorem dL_law_1052 : decode cL_law 1052 = .ok (.laload, 1) := by decide +kernel
theorem dL_law_1053 : decode cL_law 1053 = .ok (.iload 6, 2) := by decide +kernel
theorem dL_law_1055 : decode cL_law 1055 = .ok (.i2l, 1) := by decide +kernel
theorem dL_law_1056 : decode cL_law 1056 = .ok (.lcmp, 1) := by decide +kernel
theorem dL_law_1057 : decode cL_law 1057 = .ok (.ifCond .eq 5, 3) := by decide +kernel
theorem dL_law_1060 : decode cL_law 1060 = .ok (.iconst 0, 1) := by decide +kernel
theorem dL_law_1061 : decode cL_law 1061 = .ok (.ireturn, 1) := by decide +kernel
theorem dL_law_1062 : decode cL_law 1062 = .ok (.goto 258, 3) := by decide +kernel
theorem dL_law_1065 : decode cL_law 1065 = .ok (.aload_n 1, 1) := by decide +kernel
theorem dL_law_1066 : decode cL_law 1066 = .ok (.aload_n 3, 1) := by decide +kernel
theorem dL_law_1067 : decode cL_law 1067 = .ok (.invokestatic 155, 3) := by decide +kernel
theorem dL_law_1070 : decode cL_law 1070 = .ok (.istore 5, 2) := by decide +kernel
theorem dL_law_1072 : decode cL_law 1072 = .ok (.aload_n 2, 1) := by decide +kernel
theorem dL_law_1073 : decode cL_law 1073 = .ok (.invokevirtual 157, 3) := by decide +kernel
theorem dL_law_1076 : decode cL_law 1076 = .ok (.istore 6, 2) := by decide +kernel
theorem dL_law_1078 : decode cL_law 1078 = .ok (.aload_n 2, 1) := by decide +kernel
theorem dL_law_1079 : decode cL_law 1079 = .ok (.invokevirtual 94, 3) := by decide +kernel
theorem dL_law_1082 : decode cL_law 1082 = .ok (.iload 5, 2) := by decide +kernel
theorem dL_law_1084 : decode cL_law 1084 = .ok (.if_icmp .eq 5, 3) := by decide +kernel
theorem dL_law_1087 : decode cL_law 1087 = .ok (.iconst 0, 1) := by decide +kernel
theorem dL_law_1088 : decode cL_law 1088 = .ok (.ireturn, 1) := by decide +kernel
theorem dL_law_1089 : decode cL_law 1089 = .ok (.iload 5, 2) := by decide +kernel
theorem dL_law_1091 : decode cL_law 1091 = .ok (.ifCond .ne 15, 3) := by decide +kernel
theorem dL_law_1094 : decode cL_law 1094 = .ok (.aload_n 3, 1) := by decide +kernel
theorem dL_law_1095 : decode cL_law 1095 = .ok (.iconst 0, 1) := by decide +kernel
theorem dL_law_1096 : decode cL_law 1096 = .ok (.laload, 1) := by decide +kernel
theorem dL_law_1097 : decode cL_law 1097 = .ok (.iload 6, 2) := by decide +kernel
theorem dL_law_1099 : decode cL_law 1099 = .ok (.i2l, 1) := by decide +kernel
theorem dL_law_1100 : decode cL_law 1100 = .ok (.lcmp, 1) := by decide +kernel
theorem dL_law_1101 : decode cL_law 1101 = .ok (.ifCond .eq 5, 3) := by decide +kernel
theorem dL_law_1104 : decode cL_law 1104 = .ok (.iconst 0, 1) := by decide +kernel
theorem dL_law_1105 : decode cL_law 1105 = .ok (.ireturn, 1) := by decide +kernel
theorem dL_law_1106 : decode cL_law 1106 = .ok (.goto 214, 3) := by decide +kernel
theorem dL_law_1109 : decode cL_law 1109 = .ok (.aload_n 1, 1) := by decide +kernel
theorem dL_law_1110 : decode cL_law 1110 = .ok (.aload_n 0, 1) := by decide +kernel
theorem dL_law_1111 : decode cL_law 1111 = .ok (.iload 4, 2) := by decide +kernel
theorem dL_law_1113 : decode cL_law 1113 = .ok (.iconst 1, 1) := by decide +kernel
theorem dL_law_1114 : decode cL_law 1114 = .ok (.iadd, 1) := by decide +kernel
theorem dL_law_1115 : decode cL_law 1115 = .ok (.iaload, 1) := by decide +kernel
theorem dL_law_1116 : decode cL_law 1116 = .ok (.aload_n 3, 1) := by decide +kernel
theorem dL_law_1117 : decode cL_law 1117 = .ok (.invokestatic 158, 3) := by decide +kernel
theorem dL_law_1120 : decode cL_law 1120 = .ok (.istore 5, 2) := by decide +kernel
theorem dL_law_1122 : decode cL_law 1122 = .ok (.aload_n 2, 1) := by decide +kernel
theorem dL_law_1123 : decode cL_law 1123 = .ok (.aload_n 0, 1) := by decide +kernel
theorem dL_law_1124 : decode cL_law 1124 = .ok (.iload 4, 2) := by decide +kernel
theorem dL_law_1126 : decode cL_law 1126 = .ok (.iconst 1, 1) := by decide +kernel
theorem dL_law_1127 : decode cL_law 1127 = .ok (.iadd, 1) := by decide +kernel
theorem dL_law_1128 : decode cL_law 1128 = .ok (.iaload, 1) := by decide +kernel
theorem dL_law_1129 : decode cL_law 1129 = .ok (.invokevirtual 160, 3) := by decide +kernel
theorem dL_law_1132 : decode cL_law 1132 = .ok (.lstore 6, 2) := by decide +kernel
theorem dL_law_1134 : decode cL_law 1134 = .ok (.aload_n 2, 1) := by decide +kernel
theorem dL_law_1135 : decode cL_law 1135 = .ok (.invokevirtual 94, 3) := by decide +kernel
theorem dL_law_1138 : decode cL_law 1138 = .ok (.iload 5, 2) := by decide +kernel
theorem dL_law_1140 : decode cL_law 1140 = .ok (.if_icmp .eq 5, 3) := by decide +kernel
theorem dL_law_1143 : decode cL_law 1143 = .ok (.iconst 0, 1) := by decide +kernel
theorem dL_law_1144 : decode cL_law 1144 = .ok (.ireturn, 1) := by decide +kernel
theorem dL_law_1145 : decode cL_law 1145 = .ok (.iload 5, 2) := by decide +kernel
theorem dL_law_1147 : decode cL_law 1147 = .ok (.ifCond .ne 14, 3) := by decide +kernel
theorem dL_law_1150 : decode cL_law 1150 = .ok (.aload_n 3, 1) := by decide +kernel
theorem dL_law_1151 : decode cL_law 1151 = .ok (.iconst 0, 1) := by decide +kernel
theorem dL_law_1152 : decode cL_law 1152 = .ok (.laload, 1) := by decide +kernel
theorem dL_law_1153 : decode cL_law 1153 = .ok (.lload 6, 2) := by decide +kernel
theorem dL_law_1155 : decode cL_law 1155 = .ok (.lcmp, 1) := by decide +kernel
theorem dL_law_1156 : decode cL_law 1156 = .ok (.ifCond .eq 5, 3) := by decide +kernel
theorem dL_law_1159 : decode cL_law 1159 = .ok (.iconst 0, 1) := by decide +kernel
theorem dL_law_1160 : decode cL_law 1160 = .ok (.ireturn, 1) := by decide +kernel
theorem dL_law_1161 : decode cL_law 1161 = .ok (.goto 159, 3) := by decide +kernel
theorem dL_law_1164 : decode cL_law 1164 = .ok (.aload_n 1, 1) := by decide +kernel
theorem dL_law_1165 : decode cL_law 1165 = .ok (.aload_n 0, 1) := by decide +kernel
theorem dL_law_1166 : decode cL_law 1166 = .ok (.iload 4, 2) := by decide +kernel
theorem dL_law_1168 : decode cL_law 1168 = .ok (.iconst 1, 1) := by decide +kernel
theorem dL_law_1169 : decode cL_law 1169 = .ok (.iadd, 1) := by decide +kernel
theorem dL_law_1170 : decode cL_law 1170 = .ok (.iaload, 1) := by decide +kernel
theorem dL_law_1171 : decode cL_law 1171 = .ok (.aload_n 3, 1) := by decide +kernel
theorem dL_law_1172 : decode cL_law 1172 = .ok (.invokestatic 161, 3) := by decide +kernel
theorem dL_law_1175 : decode cL_law 1175 = .ok (.istore 5, 2) := by decide +kernel
theorem dL_law_1177 : decode cL_law 1177 = .ok (.aload_n 2, 1) := by decide +kernel
theorem dL_law_1178 : decode cL_law 1178 = .ok (.aload_n 0, 1) := by decide +kernel
theorem dL_law_1179 : decode cL_law 1179 = .ok (.iload 4, 2) := by decide +kernel
theorem dL_law_1181 : decode cL_law 1181 = .ok (.iconst 1, 1) := by decide +kernel
theorem dL_law_1182 : decode cL_law 1182 = .ok (.iadd, 1) := by decide +kernel
theorem dL_law_1183 : decode cL_law 1183 = .ok (.iaload, 1) := by decide +kernel
theorem dL_law_1184 : decode cL_law 1184 = .ok (.invokevirtual 163, 3) := by decide +kernel
theorem dL_law_1187 : decode cL_law 1187 = .ok (.istore 6, 2) := by decide +kernel
theorem dL_law_1189 : decode cL_law 1189 = .ok (.aload_n 2, 1) := by decide +kernel
theorem dL_law_1190 : decode cL_law 1190 = .ok (.invokevirtual 94, 3) := by decide +kernel
theorem dL_law_1193 : decode cL_law 1193 = .ok (.iload 5, 2) := by decide +kernel
theorem dL_law_1195 : decode cL_law 1195 = .ok (.if_icmp .eq 5, 3) := by decide +kernel
theorem dL_law_1198 : decode cL_law 1198 = .ok (.iconst 0, 1) := by decide +kernel
theorem dL_law_1199 : decode cL_law 1199 = .ok (.ireturn, 1) := by decide +kernel
theorem dL_law_1200 : decode cL_law 1200 = .ok (.iload 5, 2) := by decide +kernel
theorem dL_law_1202 : decode cL_law 1202 = .ok (.ifCond .ne 15, 3) := by decide +kernel
theorem dL_law_1205 : decode cL_law 1205 = .ok (.aload_n 3, 1) := by decide +kernel
theorem dL_law_1206 : decode cL_law 1206 = .ok (.iconst 0, 1) := by decide +kernel
theorem dL_law_1207 : decode cL_law 1207 = .ok (.laload, 1) := by decide +kernel
theorem dL_law_1208 : decode cL_law 1208 = .ok (.iload 6, 2) := by decide +kernel
theorem dL_law_1210 : decode cL_law 1210 = .ok (.i2l, 1) := by decide +kernel
theorem dL_law_1211 : decode cL_law 1211 = .ok (.lcmp, 1) := by decide +kernel
theorem dL_law_1212 : decode cL_law 1212 = .ok (.ifCond .eq 5, 3) := by decide +kernel
theorem dL_law_1215 : decode cL_law 1215 = .ok (.iconst 0, 1) := by decide +kernel
theorem dL_law_1216 : decode cL_law 1216 = .ok (.ireturn, 1) := by decide +kernel
theorem dL_law_1217 : decode cL_law 1217 = .ok (.goto 103, 3) := by decide +kernel
theorem dL_law_1220 : decode cL_law 1220 = .ok (.aload_n 1, 1) := by decide +kernel
theorem dL_law_1221 : decode cL_law 1221 = .ok (.aload_n 3, 1) := by decide +kernel
theorem dL_law_1222 : decode cL_law 1222 = .ok (.invokestatic 164, 3) := by decide +kernel
theorem dL_law_1225 : decode cL_law 1225 = .ok (.istore 5, 2) := by decide +kernel
theorem dL_law_1227 : decode cL_law 1227 = .ok (.aload_n 2, 1) := by decide +kernel
theorem dL_law_1228 : decode cL_law 1228 = .ok (.invokevirtual 166, 3) := by decide +kernel
theorem dL_law_1231 : decode cL_law 1231 = .ok (.istore 6, 2) := by decide +kernel
theorem dL_law_1233 : decode cL_law 1233 = .ok (.aload_n 2, 1) := by decide +kernel
theorem dL_law_1234 : decode cL_law 1234 = .ok (.invokevirtual 94, 3) := by decide +kernel
theorem dL_law_1237 : decode cL_law 1237 = .ok (.iload 5, 2) := by decide +kernel
theorem dL_law_1239 : decode cL_law 1239 = .ok (.if_icmp .eq 5, 3) := by decide +kernel
theorem dL_law_1242 : decode cL_law 1242 = .ok (.iconst 0, 1) := by decide +kernel
theorem dL_law_1243 : decode cL_law 1243 = .ok (.ireturn, 1) := by decide +kernel
theorem dL_law_1244 : decode cL_law 1244 = .ok (.iload 5, 2) := by decide +kernel
theorem dL_law_1246 : decode cL_law 1246 = .ok (.ifCond .ne 15, 3) := by decide +kernel
theorem dL_law_1249 : decode cL_law 1249 = .ok (.aload_n 3, 1) := by decide +kernel
theorem dL_law_1250 : decode cL_law 1250 = .ok (.iconst 0, 1) := by decide +kernel
theorem dL_law_1251 : decode cL_law 1251 = .ok (.laload, 1) := by decide +kernel
theorem dL_law_1252 : decode cL_law 1252 = .ok (.iload 6, 2) := by decide +kernel
theorem dL_law_1254 : decode cL_law 1254 = .ok (.i2l, 1) := by decide +kernel
theorem dL_law_1255 : decode cL_law 1255 = .ok (.lcmp, 1) := by decide +kernel
theorem dL_law_1256 : decode cL_law 1256 = .ok (.ifCond .eq 5, 3) := by decide +kernel
theorem dL_law_1259 : decode cL_law 1259 = .ok (.iconst 0, 1) := by decide +kernel
theorem dL_law_1260 : decode cL_law 1260 = .ok (.ireturn, 1) := by decide +kernel
theorem dL_law_1261 : decode cL_law 1261 = .ok (.goto 59, 3) := by decide +kernel
theorem dL_law_1264 : decode cL_law 1264 = .ok (.aload_n 1, 1) := by decide +kernel
theorem dL_law_1265 : decode cL_law 1265 = .ok (.aload_n 0, 1) := by decide +kernel
theorem dL_law_1266 : decode cL_law 1266 = .ok (.iload 4, 2) := by decide +kernel
theorem dL_law_1268 : decode cL_law 1268 = .ok (.iconst 1, 1) := by decide +kernel
theorem dL_law_1269 : decode cL_law 1269 = .ok (.iadd, 1) := by decide +kernel
theorem dL_law_1270 : decode cL_law 1270 = .ok (.iaload, 1) := by decide +kernel
theorem dL_law_1271 : decode cL_law 1271 = .ok (.aload_n 3, 1) := by decide +kernel
theorem dL_law_1272 : decode cL_law 1272 = .ok (.invokestatic 167, 3) := by decide +kernel
theorem dL_law_1275 : decode cL_law 1275 = .ok (.istore 5, 2) := by decide +kernel
theorem dL_law_1277 : decode cL_law 1277 = .ok (.aload_n 2, 1) := by decide +kernel
theorem dL_law_1278 : decode cL_law 1278 = .ok (.aload_n 0, 1) := by decide +kernel
theorem dL_law_1279 : decode cL_law 1279 = .ok (.iload 4, 2) := by decide +kernel
theorem dL_law_1281 : decode cL_law 1281 = .ok (.iconst 1, 1) := by decide +kernel
theorem dL_law_1282 : decode cL_law 1282 = .ok (.iadd, 1) := by decide +kernel
theorem dL_law_1283 : decode cL_law 1283 = .ok (.iaload, 1) := by decide +kernel
theorem dL_law_1284 : decode cL_law 1284 = .ok (.invokevirtual 169, 3) := by decide +kernel
theorem dL_law_1287 : decode cL_law 1287 = .ok (.istore 6, 2) := by decide +kernel
theorem dL_law_1289 : decode cL_law 1289 = .ok (.aload_n 2, 1) := by decide +kernel
theorem dL_law_1290 : decode cL_law 1290 = .ok (.invokevirtual 94, 3) := by decide +kernel
theorem dL_law_1293 : decode cL_law 1293 = .ok (.iload 5, 2) := by decide +kernel
theorem dL_law_1295 : decode cL_law 1295 = .ok (.if_icmp .eq 5, 3) := by decide +kernel
theorem dL_law_1298 : decode cL_law 1298 = .ok (.iconst 0, 1) := by decide +kernel
theorem dL_law_1299 : decode cL_law 1299 = .ok (.ireturn, 1) := by decide +kernel
theorem dL_law_1300 : decode cL_law 1300 = .ok (.iload 5, 2) := by decide +kernel
theorem dL_law_1302 : decode cL_law 1302 = .ok (.ifCond .ne 15, 3) := by decide +kernel
theorem dL_law_1305 : decode cL_law 1305 = .ok (.aload_n 3, 1) := by decide +kernel
theorem dL_law_1306 : decode cL_law 1306 = .ok (.iconst 0, 1) := by decide +kernel
theorem dL_law_1307 : decode cL_law 1307 = .ok (.laload, 1) := by decide +kernel
theorem dL_law_1308 : decode cL_law 1308 = .ok (.iload 6, 2) := by decide +kernel
theorem dL_law_1310 : decode cL_law 1310 = .ok (.i2l, 1) := by decide +kernel
theorem dL_law_1311 : decode cL_law 1311 = .ok (.lcmp, 1) := by decide +kernel
theorem dL_law_1312 : decode cL_law 1312 = .ok (.ifCond .eq 5, 3) := by decide +kernel
theorem dL_law_1315 : decode cL_law 1315 = .ok (.iconst 0, 1) := by decide +kernel
theorem dL_law_1316 : decode cL_law 1316 = .ok (.ireturn, 1) := by decide +kernel
theorem dL_law_1317 : decode cL_law 1317 = .ok (.goto 3, 3) := by decide +kernel
theorem dL_law_1320 : decode cL_law 1320 = .ok (.iinc 4 4, 3) := by decide +kernel
theorem dL_law_1323 : decode cL_law 1323 = .ok (.goto (-1300), 3) := by decide +kernel
theorem dL_law_1326 : decode cL_law 1326 = .ok (.iconst 1, 1) := by decide +kernel
theorem dL_law_1327 : decode cL_law 1327 = .ok (.ireturn, 1) := by decide +kernel
abbrev vwCl : List vw_C := [(RX0, TX0, 9), (RX1, TX1, 8), (RX2, TX2, 5), (RX3, TX3, 0), (RX4, TX4, 2), (RX5, TX5, 3), (RX6, TX6, 1), (RX7, TX7, 7), (RX8, TX8, 20)]
end
section
/-! the words of nest mates, and the texts of throws, out of the tables -/
def kk_nl_f : List Cond := [.fieldLinkNest "PerfectPew$Displacer" 41 "PerfectPew$KeyList" "size" "I" "PerfectPew", .fieldLinkNest "PerfectPew$Graph" 35 "PerfectPew$KeyList" "size" "I" "PerfectPew", .fieldLinkNest "PerfectPew" 69 "PerfectPew$KeyList" "size" "I" "PerfectPew", .fieldLinkNest "PerfectPew" 149 "PerfectPew$Displacer" "ranksByBucket" "LPerfectPew$Groups;" "PerfectPew", .fieldLinkNest "PerfectPew" 115 "PerfectPew$Displacer" "displacements" "LPerfectPew$Row;" "PerfectPew", .fieldLinkNest "PerfectPew" 215 "PerfectPew$Displacer" "ranksByNumber" "LPerfectPew$Row;" "PerfectPew", .fieldLinkNest "PerfectPew" 118 "PerfectPew$Displacer" "bucketCount" "I" "PerfectPew", .fieldLinkNest "PerfectPew" 129 "PerfectPew$Displacer" "seed" "I" "PerfectPew", .fieldLinkNest "PerfectPew" 158 "PerfectPew$Packer" "bitsEach" "I" "PerfectPew", .fieldLinkNest "PerfectPew" 161 "PerfectPew$Packer" "wordCount" "I" "PerfectPew", .fieldLinkNest "PerfectPew" 175 "PerfectPew$Graph" "values" "LPerfectPew$Row;" "PerfectPew", .fieldLinkNest "PerfectPew" 172 "PerfectPew$Graph" "vertexCount" "I" "PerfectPew", .fieldLinkNest "PerfectPew" 171 "PerfectPew$Graph" "seed" "I" "PerfectPew"]
def kk_nl_m : List Cond := [.methodLinkNest "PerfectPew" 9 ⟨"PerfectPew$KeyList", "<init>", "()V"⟩ "PerfectPew", .methodLinkNest "PerfectPew$KeyList" 11 ⟨"PerfectPew$Row", "<init>", "(I)V"⟩ "PerfectPew", .methodLinkNest "PerfectPew" 18 ⟨"PerfectPew$Displacer", "<init>", "()V"⟩ "PerfectPew", .methodLinkNest "PerfectPew$Displacer" 11 ⟨"PerfectPew$Groups", "<init>", "(II)V"⟩ "PerfectPew", .methodLinkNest "PerfectPew$Groups" 9 ⟨"PerfectPew$Row", "<init>", "(I)V"⟩ "PerfectPew", .methodLinkNest "PerfectPew$Displacer" 22 ⟨"PerfectPew$Row", "<init>", "(I)V"⟩ "PerfectPew", .methodLinkNest "PerfectPew" 25 ⟨"PerfectPew$Packer", "<init>", "()V"⟩ "PerfectPew", .methodLinkNest "PerfectPew" 32 ⟨"PerfectPew$Graph", "<init>", "()V"⟩ "PerfectPew", .methodLinkNest "PerfectPew$Graph" 11 ⟨"PerfectPew$Groups", "<init>", "(II)V"⟩ "PerfectPew", .methodLinkNest "PerfectPew$Graph" 22 ⟨"PerfectPew$Row", "<init>", "(I)V"⟩ "PerfectPew", .methodLinkNest "PerfectPew" 39 ⟨"PerfectPew$Row", "<init>", "(I)V"⟩ "PerfectPew", .methodLinkNest "PerfectPew" 52 ⟨"PerfectPew$KeyList", "holds", "(I)Z"⟩ "PerfectPew", .methodLinkNest "PerfectPew$KeyList" 20 ⟨"PerfectPew$Row", "get", "(I)I"⟩ "PerfectPew", .methodLinkNest "PerfectPew" 66 ⟨"PerfectPew$KeyList", "insert", "(I)V"⟩ "PerfectPew", .methodLinkNest "PerfectPew$KeyList" 31 ⟨"PerfectPew$Row", "set", "(II)V"⟩ "PerfectPew", .methodLinkNest "PerfectPew" 83 ⟨"PerfectPew$KeyList", "delete", "(I)V"⟩ "PerfectPew", .methodLinkNest "PerfectPew" 90 ⟨"PerfectPew$KeyList", "at", "(I)I"⟩ "PerfectPew", .methodLinkNest "PerfectPew" 103 ⟨"PerfectPew$Displacer", "settle", "(LPerfectPew$KeyList;I)Z"⟩ "PerfectPew", .methodLinkNest "PerfectPew$Displacer" 50 ⟨"PerfectPew", "dividedUp", "(II)I"⟩ "PerfectPew", .methodLinkNest "PerfectPew$Displacer" 68 ⟨"PerfectPew$Groups", "restart", "(II)V"⟩ "PerfectPew", .methodLinkNest "PerfectPew$Groups" 31 ⟨"PerfectPew$Row", "fill", "(I)V"⟩ "PerfectPew", .methodLinkNest "PerfectPew$Displacer" 71 ⟨"PerfectPew$KeyList", "at", "(I)I"⟩ "PerfectPew", .methodLinkNest "PerfectPew$Displacer" 87 ⟨"PerfectPew$Hash", "of", "(II)I"⟩ "PerfectPew", .methodLinkNest "PerfectPew$Displacer" 143 ⟨"PerfectPew", "remainder", "(II)I"⟩ "PerfectPew", .methodLinkNest "PerfectPew$Displacer" 78 ⟨"PerfectPew$Groups", "assign", "(II)V"⟩ "PerfectPew", .methodLinkNest "PerfectPew$Groups" 34 ⟨"PerfectPew$Row", "set", "(II)V"⟩ "PerfectPew", .methodLinkNest "PerfectPew$Groups" 38 ⟨"PerfectPew$Row", "get", "(I)I"⟩ "PerfectPew", .methodLinkNest "PerfectPew$Displacer" 90 ⟨"PerfectPew$Row", "set", "(II)V"⟩ "PerfectPew", .methodLinkNest "PerfectPew$Displacer" 96 ⟨"PerfectPew$Groups", "arrange", "()V"⟩ "PerfectPew", .methodLinkNest "PerfectPew$Displacer" 99 ⟨"PerfectPew$Row", "fill", "(I)V"⟩ "PerfectPew", .methodLinkNest "PerfectPew$Displacer" 106 ⟨"PerfectPew$Groups", "sizeOf", "(I)I"⟩ "PerfectPew", .methodLinkNest "PerfectPew$Displacer" 125 ⟨"PerfectPew$Groups", "beginOf", "(I)I"⟩ "PerfectPew", .methodLinkNest "PerfectPew$Displacer" 128 ⟨"PerfectPew$Groups", "endOf", "(I)I"⟩ "PerfectPew", .methodLinkNest "PerfectPew$Displacer" 131 ⟨"PerfectPew$Groups", "memberAt", "(I)I"⟩ "PerfectPew", .methodLinkNest "PerfectPew$Displacer" 137 ⟨"PerfectPew$Row", "get", "(I)I"⟩ "PerfectPew", .methodLinkNest "PerfectPew" 107 ⟨"PerfectPew$Graph", "settle", "(LPerfectPew$KeyList;)Z"⟩ "PerfectPew", .methodLinkNest "PerfectPew$Graph" 58 ⟨"PerfectPew$Groups", "restart", "(II)V"⟩ "PerfectPew", .methodLinkNest "PerfectPew$Graph" 61 ⟨"PerfectPew$KeyList", "at", "(I)I"⟩ "PerfectPew", .methodLinkNest "PerfectPew$Graph" 122 ⟨"PerfectPew$Hash", "of", "(II)I"⟩ "PerfectPew", .methodLinkNest "PerfectPew$Graph" 118 ⟨"PerfectPew", "remainder", "(II)I"⟩ "PerfectPew", .methodLinkNest "PerfectPew$Graph" 75 ⟨"PerfectPew$Groups", "assign", "(II)V"⟩ "PerfectPew", .methodLinkNest "PerfectPew$Graph" 81 ⟨"PerfectPew$Groups", "arrange", "()V"⟩ "PerfectPew", .methodLinkNest "PerfectPew$Graph" 84 ⟨"PerfectPew$Row", "fill", "(I)V"⟩ "PerfectPew", .methodLinkNest "PerfectPew$Graph" 87 ⟨"PerfectPew$Row", "get", "(I)I"⟩ "PerfectPew", .methodLinkNest "PerfectPew$Graph" 112 ⟨"PerfectPew$Row", "set", "(II)V"⟩ "PerfectPew", .methodLinkNest "PerfectPew$Graph" 103 ⟨"PerfectPew$Groups", "beginOf", "(I)I"⟩ "PerfectPew", .methodLinkNest "PerfectPew$Graph" 106 ⟨"PerfectPew$Groups", "endOf", "(I)I"⟩ "PerfectPew", .methodLinkNest "PerfectPew$Graph" 109 ⟨"PerfectPew$Groups", "memberAt", "(I)I"⟩ "PerfectPew", .methodLinkNest "PerfectPew$Graph" 115 ⟨"PerfectPew$Groups", "groupOf", "(I)I"⟩ "PerfectPew", .methodLinkNest "PerfectPew" 146 ⟨"PerfectPew$Row", "get", "(I)I"⟩ "PerfectPew", .methodLinkNest "PerfectPew" 211 ⟨"PerfectPew$Hash", "of", "(II)I"⟩ "PerfectPew", .methodLinkNest "PerfectPew" 202 ⟨"PerfectPew$Row", "set", "(II)V"⟩ "PerfectPew", .methodLinkNest "PerfectPew" 121 ⟨"PerfectPew$Packer", "pack", "(LPerfectPew$Row;I)V"⟩ "PerfectPew", .methodLinkNest "PerfectPew$Packer" 40 ⟨"PerfectPew$Row", "get", "(I)I"⟩ "PerfectPew", .methodLinkNest "PerfectPew$Packer" 33 ⟨"PerfectPew", "dividedUp", "(II)I"⟩ "PerfectPew", .methodLinkNest "PerfectPew" 135 ⟨"PerfectPew$Displacer", "numberOf", "(I)I"⟩ "PerfectPew", .methodLinkNest "PerfectPew" 153 ⟨"PerfectPew$Groups", "sizeOf", "(I)I"⟩ "PerfectPew", .methodLinkNest "PerfectPew" 164 ⟨"PerfectPew$Packer", "wordAt", "(I)J"⟩ "PerfectPew", .methodLinkNest "PerfectPew" 168 ⟨"PerfectPew$Graph", "sumFor", "(I)I"⟩ "PerfectPew"]
def kk_nl : List Cond := kk_nl_f ++ kk_nl_m
def kk_nest : Cond → Bool
  | .fieldLinkNest .. => true
  | .methodLinkNest .. => true
  | _ => false
theorem kk_nl_nest : ∀ w ∈ kk_nl, kk_nest w = true := fun w h => List.all_eq_true.mp (show kk_nl.all kk_nest = true by decide +kernel) w h
theorem kk_nl_in : ∀ w ∈ kk_nl, w ∈ lw_tbl := fun w h => of_decide_eq_true (List.all_eq_true.mp (show kk_nl.all (fun w => decide (w ∈ lw_tbl)) = true by decide +kernel) w h)
def kk_tx : List (Nat × String) := [(179, "a key is out of range"), (192, "the tables are built"), (58, "the key is there"), (190, "there would be too many keys"), (181, "step is out of range"), (183, "many is out of range"), (81, "the key is not there"), (187, "there is none"), (96, "load is out of range"), (99, "bits is out of range"), (101, "there are no keys"), (110, "all seeds fail"), (194, "the tables are not built"), (141, "to is out of range")]
end
section
/-! ===== my own layer over the kit: worlds put back at their places, contracts by a pure function ===== -/
/-- a world with some of its cells put anew, each at its place -/
def kk_puts (ws : va_W) : List Nat → va_W → va_W
  | i :: is, e :: w1 => kk_puts (ws.set i e) is w1
  | _, _ => ws
theorem kk_puts_len : ∀ (is : List Nat) (w1 ws : va_W), (kk_puts ws is w1).length = ws.length
  | [], _, _ => by simp [kk_puts]
  | _ :: _, [], _ => by simp [kk_puts]
  | i :: is, e :: w1, ws => by rw [kk_puts, kk_puts_len is w1, List.length_set]
theorem kk_puts_out : ∀ (is : List Nat) (w1 ws : va_W) (k : Nat), k ∉ is → (kk_puts ws is w1)[k]? = ws[k]?
  | [], _, _, _, _ => by simp [kk_puts]
  | _ :: _, [], _, _, _ => by simp [kk_puts]
  | i :: is, e :: w1, ws, k, h => by
    rw [kk_puts, kk_puts_out is w1 _ k (fun z => h (List.mem_cons_of_mem _ z))]
    exact List.getElem?_set_ne (fun z => h (by rw [← z]; exact List.mem_cons_self))
theorem kk_puts_in : ∀ (is : List Nat) (w1 ws : va_W) (j k : Nat) (e : Nat × va_E), va_nd is = true → is[j]? = some k → w1[j]? = some e → k < ws.length → (kk_puts ws is w1)[k]? = some e
  | [], _, _, j, k, e, _, h1, _, _ => by simp at h1
  | _ :: _, [], _, j, k, e, _, _, h2, _ => by simp at h2
  | i :: is, x :: w1, ws, 0, k, e, hn, h1, h2, hk => by
    simp only [va_nd, Bool.and_eq_true, decide_eq_true_eq] at hn
    simp only [List.getElem?_cons_zero, Option.some.injEq] at h1 h2
    subst h1; subst h2
    rw [kk_puts, kk_puts_out is w1 _ i hn.1, List.getElem?_set_self hk]
  | i :: is, x :: w1, ws, j + 1, k, e, hn, h1, h2, hk => by
    simp only [va_nd, Bool.and_eq_true, decide_eq_true_eq] at hn
    rw [List.getElem?_cons_succ] at h1 h2
    rw [kk_puts]
    exact kk_puts_in is w1 _ j k e hn.2 h1 h2 (by rw [List.length_set]; exact hk)
/-- behind a call: the callee's cells as it left them, each at its own place, all others as they were -/
theorem kk_puts_ok {A0 : Nat → Prop} {D : va_G} {cl : List vw_C} {ws wc w1 : va_W} {H H1 : Heap} (hP : va_P D cl ws H) (hD : va_D A0 ws) (is : List Nat) (hn : va_nd is = true)
    (hC : is.map (fun i => ws[i]?) = wc.map some) (ha : w1.map (fun q => q.1) = wc.map (fun q => q.1)) (hk : ∀ q : Nat, q < H.size → ¬ va_A wc H.size q → H1[q]? = H[q]?) (hP1 : va_P D cl w1 H1) :
    va_P D cl (kk_puts ws is w1) H1 ∧ va_D A0 (kk_puts ws is w1) := by
  have hlen : is.length = wc.length := by simpa using congrArg List.length hC
  have hlen1 : w1.length = wc.length := by simpa using congrArg List.length ha
  have atC : ∀ (j k : Nat), is[j]? = some k → ∃ q, wc[j]? = some q ∧ ws[k]? = some q := by
    intro j k hj
    have h1 : (is.map (fun i => ws[i]?))[j]? = (wc.map some)[j]? := by rw [hC]
    rw [List.getElem?_map, List.getElem?_map, hj] at h1
    cases hw : wc[j]? with
    | none => rw [hw] at h1; simp at h1
    | some q => rw [hw] at h1; exact ⟨q, rfl, by simpa using h1⟩
  have at1 : ∀ (j : Nat) (q : Nat × va_E), wc[j]? = some q → ∃ e, w1[j]? = some e ∧ e.1 = q.1 := by
    intro j q hq
    have h1 : (w1.map (fun q => q.1))[j]? = (wc.map (fun q => q.1))[j]? := by rw [ha]
    rw [List.getElem?_map, List.getElem?_map, hq] at h1
    cases hw : w1[j]? with
    | none => rw [hw] at h1; simp at h1
    | some e => rw [hw] at h1; exact ⟨e, rfl, by simpa using h1⟩
  have key : ∀ (k : Nat) (q : Nat × va_E), (kk_puts ws is w1)[k]? = some q → (k ∉ is ∧ ws[k]? = some q) ∨ (∃ (j : Nat) (q0 : Nat × va_E), is[j]? = some k ∧ w1[j]? = some q ∧ ws[k]? = some q0 ∧ q0.1 = q.1) := by
    intro k q hq
    by_cases hm : k ∈ is
    · obtain ⟨j, hj⟩ := List.getElem?_of_mem hm
      obtain ⟨q0, h1, h2⟩ := atC j k hj
      obtain ⟨e, h3, h4⟩ := at1 j q0 h1
      have h5 := kk_puts_in is w1 ws j k e hn hj h3 (List.getElem?_eq_some_iff.mp h2).1
      rw [hq] at h5
      cases h5
      exact Or.inr ⟨j, q0, hj, h3, h2, h4.symm⟩
    · rw [kk_puts_out is w1 ws k hm] at hq
      exact Or.inl ⟨hm, hq⟩
  refine ⟨fun k q hq => ?_, fun i j x y hi hj hxy => ?_, fun k q hq => ?_⟩
  · rcases key k q hq with ⟨hm, h1⟩ | ⟨j, q0, -, h1, -, -⟩
    · refine (hP k q h1).kept (hk q.1 (hP k q h1).lt ?_)
      rintro (⟨j, e, hj⟩ | h)
      · have hj2 : j < is.length := by rw [hlen]; exact (List.getElem?_eq_some_iff.mp hj).1
        obtain ⟨q0, h2, h3⟩ := atC j is[j] (List.getElem?_eq_getElem hj2)
        rw [hj] at h2
        cases h2
        have := hD.1 k is[j] q _ h1 h3 rfl
        exact hm (by rw [this]; exact List.getElem_mem hj2)
      · exact absurd (hP k q h1).lt (Nat.not_lt.mpr h)
    · exact hP1 j q h1
  · have addr : ∀ (k : Nat) (q : Nat × va_E), (kk_puts ws is w1)[k]? = some q → ∃ q0, ws[k]? = some q0 ∧ q0.1 = q.1 := by
      intro k q hq
      rcases key k q hq with ⟨-, h1⟩ | ⟨j, q0, -, -, h2, h3⟩
      · exact ⟨q, h1, rfl⟩
      · exact ⟨q0, h2, h3⟩
    obtain ⟨x0, h1, h2⟩ := addr i x hi
    obtain ⟨y0, h3, h4⟩ := addr j y hj
    exact hD.1 i j x0 y0 h1 h3 (h2.trans (hxy.trans h4.symm))
  · rcases key k q hq with ⟨-, h1⟩ | ⟨j, q0, -, -, h2, h3⟩
    · exact hD.2 k q h1
    · rw [← h3]; exact hD.2 k q0 h2
/-- the world at a point of a walk -/
def kk_wd (G : va_G) (A : Nat → Prop) (H0 : Heap) (ws : va_W) (H : Heap) (locs : List Loc) : Prop := va_P G vwCl ws H ∧ va_D A ws ∧ va_S A H0 H locs ∧ ∀ q, H0.size ≤ q → A q
/-- a callee may change what of the caller's own it is given -/
theorem kk_free {G : va_G} {A : Nat → Prop} {H0 H : Heap} {ws wc : va_W} {locs : List Loc} (hw : kk_wd G A H0 ws H locs) (is : List Nat) (hC : is.map (fun i => ws[i]?) = wc.map some) : ∀ q, va_A wc H.size q → A q := va_free hw.2.1 hw.2.2.1 hw.2.2.2 is hC
/-! the words of nest mates -/
theorem kk_nest_warm {w : Cond} (hn : kk_nest w = true) {s U : State} (hW : s.WarmedH U.vm) (h : va_Nw w s) : va_Nw w U := by
  cases w <;> first | exact va_Nw.warmF hW h | exact va_Nw.warmM hW h | simp [kk_nest] at hn
/-! the six constants of Hash: their names, and what their three fields hold -/
def kk_en : Nat → String := fun i => match i with
  | 0 => "BUCKET" | 1 => "START" | 2 => "STEP" | 3 => "FINGERPRINT" | 4 => "ONE_END" | _ => "OTHER_END"
def kk_pk : Nat → Int64 := fun i => match i with
  | 0 => 9973 | 1 => 104729 | 2 => 31337 | 3 => 611953 | 4 => 86243 | _ => 756839
def kk_ps : Nat → Int64 := fun i => match i with
  | 0 => 7919 | 1 => 15485 | 2 => 27644 | 3 => 39916 | 4 => 65537 | _ => 44497
def kk_mo : Nat → Int64 := fun i => match i with
  | 0 => 11 | 1 => 101 | 2 => 1009 | 3 => 10007 | 4 => 313 | _ => 2203
def kk_hx (ad : Nat → Nat) (A : Nat → Prop) (U : State) (H : Heap) : Prop := ∀ i, i < 6 → va_Z "PerfectPew$Hash" (kk_en i) "LPerfectPew$Hash;" (.ref (ad i)) A U H ∧ va_O "PerfectPew$Hash" (ad i) A U H ∧
  va_OF "PerfectPew$Hash" "perKey" "J" (.long (kk_pk i)) (ad i) A U H ∧ va_OF "PerfectPew$Hash" "perSeed" "J" (.long (kk_ps i)) (ad i) A U H ∧ va_OF "PerfectPew$Hash" "more" "J" (.long (kk_mo i)) (ad i) A U H
theorem kk_hx.moved {ad : Nat → Nat} {A : Nat → Prop} {u U : State} {H : Heap} (hvm : u.vm.Alike U.vm) (h : kk_hx ad A u H) : kk_hx ad A U H := fun i hi => ⟨va_Z.moved hvm (h i hi).1, va_O.moved hvm (h i hi).2.1, va_OF.moved hvm (h i hi).2.2.1, va_OF.moved hvm (h i hi).2.2.2.1, va_OF.moved hvm (h i hi).2.2.2.2⟩
theorem kk_hx.kept {ad : Nat → Nat} {A : Nat → Prop} {U : State} {H H1 : Heap} (h : kk_hx ad A U H) (hq : ∀ a : Nat, a < H.size → ¬ A a → H1[a]? = H[a]?) : kk_hx ad A U H1 := fun i hi => ⟨(h i hi).1.kept hq, (h i hi).2.1.kept hq, (h i hi).2.2.1.kept hq, (h i hi).2.2.2.1.kept hq, (h i hi).2.2.2.2.kept hq⟩
theorem kk_hx.narrow {ad : Nat → Nat} {A B : Nat → Prop} {U : State} {H : Heap} (h : kk_hx ad A U H) (hAB : ∀ q, B q → A q) : kk_hx ad B U H := fun i hi => ⟨(h i hi).1.narrow hAB, (h i hi).2.1.narrow hAB, (h i hi).2.2.1.narrow hAB, (h i hi).2.2.2.1.narrow hAB, (h i hi).2.2.2.2.narrow hAB⟩
/-! what a throw needs: two statics of Throwable, the texts -/
def kk_ex (A : Nat → Prop) (U : State) (H : Heap) : Prop := vx_Zq Bundle.tN "UNASSIGNED_STACK" Bundle.steD A U H ∧ vx_Zq Bundle.tN "SUPPRESSED_SENTINEL" Bundle.listD A U H
def kk_st (U : State) : Prop := ∀ q ∈ kk_tx, ∃ sa, vk_R RX7 q.1 q.2 sa U
/-- all that doesn't change in a run -/
def kk_ev (G : va_G) (cI cJ : ClassId) (ad : Nat → Nat) (A : Nat → Prop) (s : State) : Prop :=
  va_K G vwCl [(cI, .int), (cJ, .long)] s ∧ (∀ w ∈ kk_nl, va_Nw w s) ∧ kk_hx ad A s s.heap ∧ kk_ex A s s.heap ∧ kk_st s
theorem kk_ev.call {G : va_G} {cI cJ : ClassId} {ad : Nat → Nat} {A B : Nat → Prop} {s U : State} {H : Heap} {locs : List Loc} (h : kk_ev G cI cJ ad A s) (hS : va_S A s.heap H locs) (hB : ∀ q, B q → A q) (hU : U.heap = H) (hW : s.WarmedH U.vm) : kk_ev G cI cJ ad B U := by
  refine ⟨va_K.moved hW.alike h.1, fun w hw => kk_nest_warm (kk_nl_nest w hw) hW (h.2.1 w hw), ?_, ⟨?_, ?_⟩, fun q hq => ?_⟩
  · rw [hU]; exact ((h.2.2.1.kept hS.2.1).moved hW.alike).narrow hB
  · rw [hU]; exact ((h.2.2.2.1.1.kept hS.2.1).moved hW.alike).narrow hB
  · rw [hU]; exact ((h.2.2.2.1.2.kept hS.2.1).moved hW.alike).narrow hB
  · obtain ⟨sa, h9⟩ := h.2.2.2.2 q hq
    exact ⟨sa, h9.warm hW⟩
theorem kk_nest_tab {w : Cond} (hn : kk_nest w = true) : w.onTables = true := by
  cases w <;> first | rfl | simp [kk_nest] at hn
theorem kk_ev.same {G : va_G} {cI cJ : ClassId} {ad : Nat → Nat} {A : Nat → Prop} {s U : State} (hv : U.vm = s.vm) (hh : U.heap = s.heap) (h : kk_ev G cI cJ ad A s) : kk_ev G cI cJ ad A U := by
  have hvm : s.vm.Alike U.vm := by rw [hv]; exact Vm.Alike.refl _
  refine ⟨va_K.moved hvm h.1, fun w hw => va_Nw.same (kk_nest_tab (kk_nl_nest w hw)) hv.symm (h.2.1 w hw), ?_, ⟨?_, ?_⟩, fun q hq => ?_⟩
  · rw [hh]; exact h.2.2.1.moved hvm
  · rw [hh]; exact h.2.2.2.1.1.moved hvm
  · rw [hh]; exact h.2.2.2.1.2.moved hvm
  · obtain ⟨sa, h9⟩ := h.2.2.2.2 q hq
    exact ⟨sa, h9.same hv⟩
/-! contracts: the answer and the world behind are named beforehand, by the pure function of the method -/
def kk_Pc (G : va_G) (cI cJ : ClassId) (ad : Nat → Nat) (WC : va_W) (sz : Nat) (av : List Value) : Array Value → State → Prop :=
  va_Pc av (fun U => U.heap.size = sz ∧ va_P G vwCl WC U.heap ∧ va_D (fun _ => True) WC ∧ kk_ev G cI cJ ad (va_A WC sz) U)
theorem kk_blind {G : va_G} {cI cJ : ClassId} {ad : Nat → Nat} {WC : va_W} {sz : Nat} {av : List Value} : FrameBlind (kk_Pc G cI cJ ad WC sz av) := by
  intro a U g mk ⟨h1, h2, h3, h4, h5⟩
  exact ⟨h1, h2, h3, h4, h5.same rfl rfl⟩
def kk_rm (fr lo : Nat) : Room := { frames := fr, cells := 0, slots := 0, locals := lo }
def kk_I (l : Launch) (y : MethodName) (ws : List Cond) (fr lo : Nat) (av : List Value) (G : va_G) (cI cJ : ClassId) (ad : Nat → Nat) (WC : va_W) (r : Int32) (W1 : va_W) : Prop :=
  ∀ sz : Nat, Met l y ws (kk_rm fr lo) (kk_Pc G cI cJ ad WC sz av) (va_Qi (fun x (_ : Unit) => x = r) (fun _ t => va_P G vwCl W1 t.heap) (va_A WC sz)) 0 0 (va_A WC sz)
def kk_L (l : Launch) (y : MethodName) (ws : List Cond) (fr lo : Nat) (av : List Value) (G : va_G) (cI cJ : ClassId) (ad : Nat → Nat) (WC : va_W) (r : Int64) (W1 : va_W) : Prop :=
  ∀ sz : Nat, Met l y ws (kk_rm fr lo) (kk_Pc G cI cJ ad WC sz av) (va_Ql (fun x (_ : Unit) => x = r) (fun _ t => va_P G vwCl W1 t.heap) (va_A WC sz)) 0 0 (va_A WC sz)
def kk_V (l : Launch) (y : MethodName) (ws : List Cond) (fr lo : Nat) (av : List Value) (G : va_G) (cI cJ : ClassId) (ad : Nat → Nat) (WC : va_W) (W1 : va_W) : Prop :=
  ∀ sz : Nat, Met l y ws (kk_rm fr lo) (kk_Pc G cI cJ ad WC sz av) (va_Qv (fun (_ : Unit) => True) (fun _ t => va_P G vwCl W1 t.heap) (va_A WC sz)) 0 0 (va_A WC sz)
section KKOF
variable {l : Launch} {y : MethodName} {ws ws' : List Cond} {fr lo : Nat} {av : List Value} {G : va_G} {cI cJ : ClassId} {ad : Nat → Nat} {WC W1 : va_W} {cc : ByteArray} {maxL : Nat}
/-- what a walk of a body is given -/
def kk_body (l : Launch) (y : MethodName) (ws : List Cond) (fr lo : Nat) (av : List Value) (G : va_G) (cI cJ : ClassId) (ad : Nat → Nat) (WC : va_W) (cc : ByteArray) (maxL : Nat)
    (End : Program → Env → State → MethodId → List Frame → Method → Code → (Nat → Prop) → (State → Prop) → Prop) : Prop :=
  ∀ (p : Program) (e : Env) (s : State) (m : MethodId) (below : List Frame) (meth : Method) (c : Code) (A : Nat → Prop) (Q : State → Prop) (ls : Array Slot),
    p.tables.exec = Jvm.exec → c.code = cc → c.maxLocals = maxL → s.vm.findClass y.cls = some m.cls → (∀ w ∈ ws, w.before av.toArray s = true) → kk_ev G cI cJ ad A s → kk_wd G A s.heap WC s.heap [] →
    lv_has ls maxL (lv_args 0 av) → End p e s m below meth c A Q → W p l e (kk_rm fr lo) s m av.toArray below meth c s.heap [] 0 0 Q (F0 m 0 ls [])
theorem kk_ofI {r : Int32} (hy : plainName y.cls = true) (hw : ws = Cond.code y cc maxL (some .int) :: ws') (hsl : (lg_sl av).length ≤ maxL)
    (body : kk_body l y ws fr lo av G cI cJ ad WC cc maxL (fun p e s m below meth c A Q => ∀ (H : Heap) (locs : List Loc) (pc : Nat) (ls : Array Slot), decode cc pc = .ok (.ireturn, 1) → kk_wd G A s.heap W1 H locs → W p l e (kk_rm fr lo) s m av.toArray below meth c H locs 0 0 Q (F0 m pc ls [.int r]))) :
    kk_I l y ws fr lo av G cI cJ ad WC r W1 := by
  intro sz
  refine Met.ofW (cc := cc) (maxL := maxL) (ret := some .int) hy hw ?_
  intro p e s m args below meth c s₁ B hml hv
  obtain ⟨rfl, hsz, hP, hD0, hE⟩ := hv
  subst hsz
  rw [lg_entry_eq]
  refine body p e s m below meth c (va_A WC s.heap.size) _ _ B.exec B.bytes hml (findClass_of_methodNamed B.named) (atoms_spec (ws := ws) B.pre) hE ⟨hP, hD0.self, va_S.rf, fun q h => Or.inr h⟩ (lv_entry av hsl) ?_
  intro H locs pc ls hd hwd
  exact W.iret (v := r) B.exec B.bytes B.returns (fun t ht hW => ⟨⟨r, (), rfl, rfl, by rw [ht]; exact hwd.1⟩, hwd.2.2.1.F ht⟩) hwd.2.2.1.2.2 hd B.notSynchronized
theorem kk_ofZ {r : Int32} (hy : plainName y.cls = true) (hw : ws = Cond.code y cc maxL (some .boolean) :: ws') (hsl : (lg_sl av).length ≤ maxL)
    (body : kk_body l y ws fr lo av G cI cJ ad WC cc maxL (fun p e s m below meth c A Q => ∀ (H : Heap) (locs : List Loc) (pc : Nat) (ls : Array Slot), decode cc pc = .ok (.ireturn, 1) → (r = 0 ∨ r = 1) → kk_wd G A s.heap W1 H locs → W p l e (kk_rm fr lo) s m av.toArray below meth c H locs 0 0 Q (F0 m pc ls [.int r]))) :
    kk_I l y ws fr lo av G cI cJ ad WC r W1 := by
  intro sz
  refine Met.ofW (cc := cc) (maxL := maxL) (ret := some .boolean) hy hw ?_
  intro p e s m args below meth c s₁ B hml hv
  obtain ⟨rfl, hsz, hP, hD0, hE⟩ := hv
  subst hsz
  rw [lg_entry_eq]
  refine body p e s m below meth c (va_A WC s.heap.size) _ _ B.exec B.bytes hml (findClass_of_methodNamed B.named) (atoms_spec (ws := ws) B.pre) hE ⟨hP, hD0.self, va_S.rf, fun q h => Or.inr h⟩ (lv_entry av hsl) ?_
  intro H locs pc ls hd hb hwd
  exact W.zret (v := r) B.exec B.bytes B.returns (by rcases hb with rfl | rfl <;> decide) (fun t ht hW => ⟨⟨r, (), rfl, rfl, by rw [ht]; exact hwd.1⟩, hwd.2.2.1.F ht⟩) hwd.2.2.1.2.2 hd B.notSynchronized
theorem kk_ofL {r : Int64} (hy : plainName y.cls = true) (hw : ws = Cond.code y cc maxL (some .long) :: ws') (hsl : (lg_sl av).length ≤ maxL)
    (body : kk_body l y ws fr lo av G cI cJ ad WC cc maxL (fun p e s m below meth c A Q => ∀ (H : Heap) (locs : List Loc) (pc : Nat) (ls : Array Slot), decode cc pc = .ok (.lreturn, 1) → kk_wd G A s.heap W1 H locs → W p l e (kk_rm fr lo) s m av.toArray below meth c H locs 0 0 Q (F0 m pc ls [.long r]))) :
    kk_L l y ws fr lo av G cI cJ ad WC r W1 := by
  intro sz
  refine Met.ofW (cc := cc) (maxL := maxL) (ret := some .long) hy hw ?_
  intro p e s m args below meth c s₁ B hml hv
  obtain ⟨rfl, hsz, hP, hD0, hE⟩ := hv
  subst hsz
  rw [lg_entry_eq]
  refine body p e s m below meth c (va_A WC s.heap.size) _ _ B.exec B.bytes hml (findClass_of_methodNamed B.named) (atoms_spec (ws := ws) B.pre) hE ⟨hP, hD0.self, va_S.rf, fun q h => Or.inr h⟩ (lv_entry av hsl) ?_
  intro H locs pc ls hd hwd
  exact W.lret (v := r) B.exec B.bytes B.returns (fun t ht hW => ⟨⟨r, (), rfl, rfl, by rw [ht]; exact hwd.1⟩, hwd.2.2.1.F ht⟩) hwd.2.2.1.2.2 hd B.notSynchronized
theorem kk_ofV (hy : plainName y.cls = true) (hw : ws = Cond.code y cc maxL none :: ws') (hsl : (lg_sl av).length ≤ maxL)
    (body : kk_body l y ws fr lo av G cI cJ ad WC cc maxL (fun p e s m below meth c A Q => ∀ (H : Heap) (locs : List Loc) (pc : Nat) (ls : Array Slot), decode cc pc = .ok (.return_, 1) → kk_wd G A s.heap W1 H locs → W p l e (kk_rm fr lo) s m av.toArray below meth c H locs 0 0 Q (F0 m pc ls []))) :
    kk_V l y ws fr lo av G cI cJ ad WC W1 := by
  intro sz
  refine Met.ofW (cc := cc) (maxL := maxL) (ret := none) hy hw ?_
  intro p e s m args below meth c s₁ B hml hv
  obtain ⟨rfl, hsz, hP, hD0, hE⟩ := hv
  subst hsz
  rw [lg_entry_eq]
  refine body p e s m below meth c (va_A WC s.heap.size) _ _ B.exec B.bytes hml (findClass_of_methodNamed B.named) (atoms_spec (ws := ws) B.pre) hE ⟨hP, hD0.self, va_S.rf, fun q h => Or.inr h⟩ (lv_entry av hsl) ?_
  intro H locs pc ls hd hwd
  exact W.vret B.exec B.bytes B.returns (fun t ht hW => ⟨⟨(), rfl, trivial, by rw [ht]; exact hwd.1⟩, hwd.2.2.1.F ht⟩) hwd.2.2.1.2.2 hd B.notSynchronized
end KKOF
section KKRUN
variable {p : Program} {l : Launch} {e : Env} {R : Room} {s : State} {m : MethodId} {args : Array Value} {below : List Frame} {meth : Method} {c : Code} {H : Heap} {locs : List Loc} {cells slots : Nat} {Q : State → Prop}
variable {G : va_G} {cI cJ : ClassId} {ad : Nat → Nat} {A : Nat → Prop} {ws WC W1 : va_W} {Ts wsY ws' : List Cond} {cc bytes : ByteArray} {nL maxL index n fr lo pc : Nat} {own C : String} {y : MethodName} {ret : Option FieldType} {b : Addr} {As rest st : List Value} {ls : Array Slot} {Qc : Array Value → State → Outcome → State → Prop}
/-- what a call is given of the caller: the machine, the world, where the callee's cells stand in it -/
def kk_at (p : Program) (m : MethodId) (c : Code) (cc : ByteArray) (nL : Nat) (s : State) (args : Array Value) (Ts : List Cond) (own : String) (G : va_G) (cI cJ : ClassId) (ad : Nat → Nat) (A : Nat → Prop) : Prop :=
  CallFix p m c cc nL s args Ts own ∧ kk_ev G cI cJ ad A s
theorem kk_pre (F : kk_at p m c cc nL s args Ts own G cI cJ ad A) (hw : kk_wd G A s.heap ws H locs) (is : List Nat) (hn : va_nd is = true) (hC : is.map (fun i => ws[i]?) = WC.map some) (av : List Value) :
    ∀ U : State, U.heap = H → s.WarmedH U.vm → kk_Pc G cI cJ ad WC H.size av av.toArray U := by
  intro U hU hW
  have hP : va_P G vwCl WC H := by
    refine hw.1.sub is ?_
    have h : ∀ (is : List Nat) (WC : va_W), is.map (fun i => ws[i]?) = WC.map some → is.filterMap (fun i => ws[i]?) = WC := by
      intro is
      induction is with
      | nil => intro WC h; cases WC with | nil => rfl | cons a w => cases h
      | cons i is ih =>
        intro WC h
        cases WC with
        | nil => cases h
        | cons a w =>
          simp only [List.map_cons, List.cons.injEq] at h
          rw [List.filterMap_cons, h.1, ih w h.2]
    exact h is WC hC
  exact ⟨rfl, by rw [hU], by rw [hU]; exact hP, (hw.2.1.sub is hn hC).weaken (fun _ _ _ _ => trivial), F.2.call hw.2.2.1 (kk_free hw is hC) hU hW⟩
theorem kk_runV (F : kk_at p m c cc nL s args Ts own G cI cJ ad A) (hw : kk_wd G A s.heap ws H locs) (hls : ls.size = nL) (is : List Nat) (hnd : va_nd is = true) (hC : is.map (fun i => ws[i]?) = WC.map some)
    (hM : Met l y wsY (kk_rm fr lo) (kk_Pc G cI cJ ad WC H.size (.ref b :: As)) Qc 0 0 (va_A WC H.size)) (hG : GoodIn Ts (wsV own index C y wsY)) (hwY : wsY = Cond.code y bytes maxL ret :: ws')
    (hd : y.cls = C ∧ y.cls ≠ "java/lang/invoke/MethodHandle" ∧ y.cls ≠ "java/lang/invoke/VarHandle" ∧ (parseMethodDescriptor y.desc).map (fun d => d.parameters.length) = some As.length) (hR : fr + 1 ≤ R.frames ∧ 8 + (maxL + 11) + lo ≤ R.locals) (hcs : cells ≤ R.cells ∧ slots ≤ R.slots)
    (q0 ci : Nat) {fs : List Value} {q : vw_C} (hr0 : vwCl[ci]? = some q) (hq1 : q.1 = C) (hr1 : ws[q0]? = some (b, .inr (ci, fs)))
    (hst : st = As.reverse ++ .ref b :: rest) (hrest : (rest.map fun v => v.category).sum ≤ 8) (hdg : decode cc pc = .ok (.invokevirtual index, 3)) :
    va_Run p l e R s m args below meth c H locs cells slots 0 0 (F0 m pc ls st) rest (Qc (Value.ref b :: As).toArray) (va_A WC H.size) := by
  subst hq1
  exact va_runV (As := As) (rest := rest) F.1 hM (cwV As.length F.1.2.2.2.2 hG hwY rfl rfl hd hR) ⟨kk_blind, va_recv F.2.1 hw.1 hr0 hr1, kk_pre F hw is hnd hC _⟩ rfl rfl hls hst (lv_room hrest) hdg ⟨hcs.1, hcs.2⟩
theorem kk_runN {host : String} (F : kk_at p m c cc nL s args Ts own G cI cJ ad A) (hw : kk_wd G A s.heap ws H locs) (hls : ls.size = nL) (is : List Nat) (hnd : va_nd is = true) (hC : is.map (fun i => ws[i]?) = WC.map some)
    (hM : Met l y wsY (kk_rm fr lo) (kk_Pc G cI cJ ad WC H.size (.ref b :: As)) Qc 0 0 (va_A WC H.size)) (hG : GoodIn Ts wsY) (hwY : wsY = Cond.code y bytes maxL ret :: ws') (hnest : Cond.methodLinkNest own index y host ∈ kk_nl)
    (hini : Cond.initialized y.cls ∈ Ts) (hins : Cond.instanceMethod y ∈ Ts) (hsel : Cond.selects C y y ∈ Ts)
    (hd : y.cls ≠ "java/lang/invoke/MethodHandle" ∧ y.cls ≠ "java/lang/invoke/VarHandle" ∧ (parseMethodDescriptor y.desc).map (fun d => d.parameters.length) = some As.length) (hR : fr + 1 ≤ R.frames ∧ 8 + (maxL + 11) + lo ≤ R.locals) (hcs : cells ≤ R.cells ∧ slots ≤ R.slots)
    (q0 ci : Nat) {fs : List Value} {q : vw_C} (hr0 : vwCl[ci]? = some q) (hq1 : q.1 = C) (hr1 : ws[q0]? = some (b, .inr (ci, fs)))
    (hst : st = As.reverse ++ .ref b :: rest) (hrest : (rest.map fun v => v.category).sum ≤ 8) (hdg : decode cc pc = .ok (.invokevirtual index, 3)) :
    va_Run p l e R s m args below meth c H locs cells slots 0 0 (F0 m pc ls st) rest (Qc (Value.ref b :: As).toArray) (va_A WC H.size) := by
  subst hq1
  have hts := F.1.2.2.2.2
  exact va_runVN (As := As) (rest := rest) F.1 hM ⟨va_cnB As.length hts hG hwY rfl rfl (F.2.2.1 _ hnest) (hts _ hini) hd hR, hts _ hins, hts _ hsel⟩ ⟨kk_blind, va_recv F.2.1 hw.1 hr0 hr1, kk_pre F hw is hnd hC _⟩ rfl rfl hls hst (lv_room hrest) hdg ⟨hcs.1, hcs.2⟩
/-- a constant of Hash is called -/
theorem kk_runH {host : String} {k : Nat} (F : kk_at p m c cc nL s args Ts own G cI cJ ad A) (hw : kk_wd G A s.heap ws H locs) (hls : ls.size = nL) (hk : k < 6)
    (hM : Met l y wsY (kk_rm fr lo) (kk_Pc G cI cJ ad [] H.size (.ref (ad k) :: As)) Qc 0 0 (va_A [] H.size)) (hG : GoodIn Ts wsY) (hwY : wsY = Cond.code y bytes maxL ret :: ws') (hnest : Cond.methodLinkNest own index y host ∈ kk_nl)
    (hini : Cond.initialized y.cls ∈ Ts) (hins : Cond.instanceMethod y ∈ Ts) (hsel : Cond.selects "PerfectPew$Hash" y y ∈ Ts)
    (hd : y.cls ≠ "java/lang/invoke/MethodHandle" ∧ y.cls ≠ "java/lang/invoke/VarHandle" ∧ (parseMethodDescriptor y.desc).map (fun d => d.parameters.length) = some As.length) (hR : fr + 1 ≤ R.frames ∧ 8 + (maxL + 11) + lo ≤ R.locals) (hcs : cells ≤ R.cells ∧ slots ≤ R.slots)
    (hst : st = As.reverse ++ .ref (ad k) :: rest) (hrest : (rest.map fun v => v.category).sum ≤ 8) (hdg : decode cc pc = .ok (.invokevirtual index, 3)) :
    va_Run p l e R s m args below meth c H locs cells slots 0 0 (F0 m pc ls st) rest (Qc (Value.ref (ad k) :: As).toArray) (va_A [] H.size) := by
  have hts := F.1.2.2.2.2
  obtain ⟨cell, h1, h2, h3, -⟩ := (F.2.2.2.1 k hk).2.1.kept hw.2.2.1.2.1
  exact va_runVN (As := As) (rest := rest) F.1 hM ⟨va_cnB As.length hts hG hwY rfl rfl (F.2.2.1 _ hnest) (hts _ hini) hd hR, hts _ hins, hts _ hsel⟩ ⟨kk_blind, ⟨cell, h1, h2, h3⟩, kk_pre F hw [] rfl rfl _⟩ rfl rfl hls hst (lv_room hrest) hdg ⟨hcs.1, hcs.2⟩
theorem kk_runS (F : kk_at p m c cc nL s args Ts own G cI cJ ad A) (hw : kk_wd G A s.heap ws H locs) (hls : ls.size = nL) (is : List Nat) (hnd : va_nd is = true) (hC : is.map (fun i => ws[i]?) = WC.map some)
    (hM : Met l y wsY (kk_rm fr lo) (kk_Pc G cI cJ ad WC H.size As) Qc 0 0 (va_A WC H.size)) (hG : GoodIn Ts (va_wsS own index y wsY)) (hwY : wsY = Cond.code y bytes maxL ret :: ws')
    (hd : y.cls ≠ "java/lang/invoke/MethodHandle" ∧ y.cls ≠ "java/lang/invoke/VarHandle" ∧ (parseMethodDescriptor y.desc).map (fun d => d.parameters.length) = some As.length) (hR : fr + 1 ≤ R.frames ∧ 8 + (maxL + 11) + lo ≤ R.locals) (hcs : cells ≤ R.cells ∧ slots ≤ R.slots)
    (hst : st = As.reverse ++ rest) (hrest : (rest.map fun v => v.category).sum ≤ 8) (hdg : decode cc pc = .ok (.invokestatic index, 3)) :
    va_Run p l e R s m args below meth c H locs cells slots 0 0 (F0 m pc ls st) rest (Qc As.toArray) (va_A WC H.size) :=
  va_runS (As := As) (rest := rest) F.1 hM (va_cwS As.length F.1.2.2.2.2 hG hwY rfl rfl hd hR) ⟨kk_blind, kk_pre F hw is hnd hC _⟩ rfl rfl hls hst (lv_room hrest) hdg ⟨hcs.1, hcs.2⟩
theorem kk_runSN {host : String} (F : kk_at p m c cc nL s args Ts own G cI cJ ad A) (hw : kk_wd G A s.heap ws H locs) (hls : ls.size = nL) (is : List Nat) (hnd : va_nd is = true) (hC : is.map (fun i => ws[i]?) = WC.map some)
    (hM : Met l y wsY (kk_rm fr lo) (kk_Pc G cI cJ ad WC H.size As) Qc 0 0 (va_A WC H.size)) (hG : GoodIn Ts wsY) (hwY : wsY = Cond.code y bytes maxL ret :: ws') (hnest : Cond.methodLinkNest own index y host ∈ kk_nl)
    (hini : Cond.initialized y.cls ∈ Ts) (hsta : Cond.static y ∈ Ts)
    (hd : y.cls ≠ "java/lang/invoke/MethodHandle" ∧ y.cls ≠ "java/lang/invoke/VarHandle" ∧ (parseMethodDescriptor y.desc).map (fun d => d.parameters.length) = some As.length) (hR : fr + 1 ≤ R.frames ∧ 8 + (maxL + 11) + lo ≤ R.locals) (hcs : cells ≤ R.cells ∧ slots ≤ R.slots)
    (hst : st = As.reverse ++ rest) (hrest : (rest.map fun v => v.category).sum ≤ 8) (hdg : decode cc pc = .ok (.invokestatic index, 3)) :
    va_Run p l e R s m args below meth c H locs cells slots 0 0 (F0 m pc ls st) rest (Qc As.toArray) (va_A WC H.size) := by
  have hts := F.1.2.2.2.2
  exact va_runSN (As := As) (rest := rest) F.1 hM ⟨va_cnB As.length hts hG hwY rfl rfl (F.2.2.1 _ hnest) (hts _ hini) hd hR, hts _ hsta, trivial⟩ ⟨kk_blind, kk_pre F hw is hnd hC _⟩ rfl rfl hls hst (lv_room hrest) hdg ⟨hcs.1, hcs.2⟩
variable {a : Array Value}
theorem kk_callI {r : Int32} (hw : kk_wd G A s.heap ws H locs) (is : List Nat) (hnd : va_nd is = true) (hC : is.map (fun i => ws[i]?) = WC.map some) (ha : W1.map (fun q => q.1) = WC.map (fun q => q.1))
    (hr : va_Run p l e R s m args below meth c H locs cells slots 0 0 (F0 m pc ls st) rest (va_Qi (fun x (_ : Unit) => x = r) (fun _ t => va_P G vwCl W1 t.heap) (va_A WC H.size) a) (va_A WC H.size))
    (kk : ∀ (H1 : Heap) (locs1 : List Loc), kk_wd G A s.heap (kk_puts ws is W1) H1 locs1 → W p l e R s m args below meth c H1 locs1 cells slots Q (F0 m (pc + 3) ls (.int r :: rest))) : W p l e R s m args below meth c H locs cells slots Q (F0 m pc ls st) := by
  have hF := kk_free hw is hC
  refine va_calli hr hw.2.2.1 (fun q _ h => hF q h) hF (fun x u t H1 locs1 ht hvm hw1 hB hz1 hk1 hS1 => ?_)
  subst hw1
  rw [ht] at hB
  obtain ⟨h1, h2⟩ := kk_puts_ok hw.1 hw.2.1 is hnd hC ha hk1 hB
  exact kk H1 locs1 ⟨h1, h2, hS1, hw.2.2.2⟩
theorem kk_callL {r : Int64} (hw : kk_wd G A s.heap ws H locs) (is : List Nat) (hnd : va_nd is = true) (hC : is.map (fun i => ws[i]?) = WC.map some) (ha : W1.map (fun q => q.1) = WC.map (fun q => q.1))
    (hr : va_Run p l e R s m args below meth c H locs cells slots 0 0 (F0 m pc ls st) rest (va_Ql (fun x (_ : Unit) => x = r) (fun _ t => va_P G vwCl W1 t.heap) (va_A WC H.size) a) (va_A WC H.size))
    (kk : ∀ (H1 : Heap) (locs1 : List Loc), kk_wd G A s.heap (kk_puts ws is W1) H1 locs1 → W p l e R s m args below meth c H1 locs1 cells slots Q (F0 m (pc + 3) ls (.long r :: rest))) : W p l e R s m args below meth c H locs cells slots Q (F0 m pc ls st) := by
  have hF := kk_free hw is hC
  refine va_calll hr hw.2.2.1 (fun q _ h => hF q h) hF (fun x u t H1 locs1 ht hvm hw1 hB hz1 hk1 hS1 => ?_)
  subst hw1
  rw [ht] at hB
  obtain ⟨h1, h2⟩ := kk_puts_ok hw.1 hw.2.1 is hnd hC ha hk1 hB
  exact kk H1 locs1 ⟨h1, h2, hS1, hw.2.2.2⟩
theorem kk_callV (hw : kk_wd G A s.heap ws H locs) (is : List Nat) (hnd : va_nd is = true) (hC : is.map (fun i => ws[i]?) = WC.map some) (ha : W1.map (fun q => q.1) = WC.map (fun q => q.1))
    (hr : va_Run p l e R s m args below meth c H locs cells slots 0 0 (F0 m pc ls st) rest (va_Qv (fun (_ : Unit) => True) (fun _ t => va_P G vwCl W1 t.heap) (va_A WC H.size) a) (va_A WC H.size))
    (kk : ∀ (H1 : Heap) (locs1 : List Loc), kk_wd G A s.heap (kk_puts ws is W1) H1 locs1 → W p l e R s m args below meth c H1 locs1 cells slots Q (F0 m (pc + 3) ls rest)) : W p l e R s m args below meth c H locs cells slots Q (F0 m pc ls st) := by
  have hF := kk_free hw is hC
  refine va_callv hr hw.2.2.1 (fun q _ h => hF q h) hF (fun u t H1 locs1 ht hvm hw1 hB hz1 hk1 hS1 => ?_)
  rw [ht] at hB
  obtain ⟨h1, h2⟩ := kk_puts_ok hw.1 hw.2.1 is hnd hC ha hk1 hB
  exact kk H1 locs1 ⟨h1, h2, hS1, hw.2.2.2⟩
end KKRUN
section KKINS
variable {p : Program} {l : Launch} {e : Env} {R : Room} {s : State} {m : MethodId} {args : Array Value} {below : List Frame} {meth : Method} {c : Code} {H : Heap} {locs : List Loc} {cells slots : Nat} {Q : State → Prop}
variable {G : va_G} {cI cJ : ClassId} {ad : Nat → Nat} {A : Nat → Prop} {ws : va_W} {Ts : List Cond} {cc : ByteArray} {nL pc a : Nat} {own : String} {rest : List Value} {ls : Array Slot}
theorem kk_get {C : String} {T : u_T} {N ci index : Nat} (F : kk_at p m c cc nL s args Ts own G cI cJ ad A) (hw : kk_wd G A s.heap ws H locs) (hin : ∀ w ∈ u_ws C T N, w ∈ Ts) (q0 : Nat) {fs : List Value} (he : ws[q0]? = some (a, .inr (ci, fs))) (hc : vwCl[ci]? = some (C, T, N)) (k : Nat) (hk : k < N)
    (hlink : Cond.fieldLink own index (T k).1 (T k).2.1 (T k).2.2.1 ∈ Ts) {v : Value} (hv : fs[k]? = some v) (hdg : decode cc pc = .ok (.getfield index, 3))
    (kk : W p l e R s m args below meth c H locs cells slots Q (F0 m (pc + 3) ls (v :: rest))) : W p l e R s m args below meth c H locs cells slots Q (F0 m pc ls (.ref a :: rest)) :=
  va_get F.1.1 F.1.2.1 F.1.2.2.2.2 hin F.1.2.2.2.1 F.2.1 hw.1 q0 he hc k hk (F.1.2.2.2.2 _ hlink) (fun _ h => h) hv hdg kk
theorem kk_getN {C host : String} {T : u_T} {N ci index : Nat} (F : kk_at p m c cc nL s args Ts own G cI cJ ad A) (hw : kk_wd G A s.heap ws H locs) (hin : ∀ w ∈ u_ws C T N, w ∈ Ts) (q0 : Nat) {fs : List Value} (he : ws[q0]? = some (a, .inr (ci, fs))) (hc : vwCl[ci]? = some (C, T, N)) (k : Nat) (hk : k < N)
    (hlink : Cond.fieldLinkNest own index (T k).1 (T k).2.1 (T k).2.2.1 host ∈ kk_nl) {v : Value} (hv : fs[k]? = some v) (hdg : decode cc pc = .ok (.getfield index, 3))
    (kk : W p l e R s m args below meth c H locs cells slots Q (F0 m (pc + 3) ls (v :: rest))) : W p l e R s m args below meth c H locs cells slots Q (F0 m pc ls (.ref a :: rest)) :=
  va_getN F.1.1 F.1.2.1 F.1.2.2.2.2 hin F.1.2.2.2.1 F.2.1 hw.1 q0 he hc k hk (va_Nw.use rfl (F.2.2.1 _ hlink)) (fun _ h => h) hv hdg kk
theorem kk_put {C : String} {T : u_T} {N ci index : Nat} (F : kk_at p m c cc nL s args Ts own G cI cJ ad A) (hw : kk_wd G A s.heap ws H locs) (hin : ∀ w ∈ u_ws C T N, w ∈ Ts) (ty0 : Nat → FieldType) (hty : ∀ k, k < N → parseFieldDescriptor (T k).2.2.1 = some (ty0 k)) (hnm : ∀ a, a < N → ∀ b, b < N → a ≠ b → (T a).2.1 ≠ (T b).2.1)
    (q0 : Nat) {fs : List Value} (he : ws[q0]? = some (a, .inr (ci, fs))) (hc : vwCl[ci]? = some (C, T, N)) (k : Nat) (hk : k < N) (hlink : Cond.fieldLink own index (T k).1 (T k).2.1 (T k).2.2.1 ∈ Ts) (hfin : (T k).2.2.2 = false) {v : Value} (hn : narrow (ty0 k) v = v) (hfit : fits (ty0 k) v = true) (hl : k < fs.length) (hdg : decode cc pc = .ok (.putfield index, 3))
    (kk : ∀ (H1 : Heap) (locs1 : List Loc), kk_wd G A s.heap (ws.set q0 (a, .inr (ci, fs.set k v))) H1 locs1 → W p l e R s m args below meth c H1 locs1 cells slots Q (F0 m (pc + 3) ls rest)) : W p l e R s m args below meth c H locs cells slots Q (F0 m pc ls (v :: .ref a :: rest)) :=
  va_put F.1.1 F.1.2.1 F.1.2.2.2.2 hin ty0 hty hnm F.1.2.2.2.1 F.2.1 hw.1 hw.2.1 hw.2.2.1 q0 he hc k hk (F.1.2.2.2.2 _ hlink) (fun _ h => h) hfin (hty k hk) hn hfit hl hdg (fun H1 locs1 hP hD hS => kk H1 locs1 ⟨hP, hD, hS, hw.2.2.2⟩)
theorem kk_iald (F : kk_at p m c cc nL s args Ts own G cI cJ ad A) (hw : kk_wd G A s.heap ws H locs) (q0 : Nat) {n : Nat} {f : Nat → Int32} (he : ws[q0]? = some (a, .inl (cI, n, .inl f))) {i : Int32} (hin : vp_in i n) (hdg : decode cc pc = .ok (.iaload, 1))
    (kk : W p l e R s m args below meth c H locs cells slots Q (F0 m (pc + 1) ls (.int (f i.toNatClampNeg) :: rest))) : W p l e R s m args below meth c H locs cells slots Q (F0 m pc ls (.int i :: .ref a :: rest)) :=
  va_iald F.1.1 F.1.2.1 F.2.1 hw.1 q0 0 he rfl hin hdg kk
theorem kk_lald (F : kk_at p m c cc nL s args Ts own G cI cJ ad A) (hw : kk_wd G A s.heap ws H locs) (q0 : Nat) {n : Nat} {f : Nat → Int64} (he : ws[q0]? = some (a, .inl (cJ, n, .inr (.inl f)))) {i : Int32} (hin : vp_in i n) (hdg : decode cc pc = .ok (.laload, 1))
    (kk : W p l e R s m args below meth c H locs cells slots Q (F0 m (pc + 1) ls (.long (f i.toNatClampNeg) :: rest))) : W p l e R s m args below meth c H locs cells slots Q (F0 m pc ls (.int i :: .ref a :: rest)) :=
  va_lald F.1.1 F.1.2.1 F.2.1 hw.1 q0 1 he rfl hin hdg kk
theorem kk_iast (F : kk_at p m c cc nL s args Ts own G cI cJ ad A) (hw : kk_wd G A s.heap ws H locs) (q0 : Nat) {n : Nat} {f : Nat → Int32} (he : ws[q0]? = some (a, .inl (cI, n, .inl f))) {i x : Int32} (hin : vp_in i n) (hdg : decode cc pc = .ok (.iastore, 1))
    (kk : ∀ (H1 : Heap) (locs1 : List Loc), kk_wd G A s.heap (ws.set q0 (a, .inl (cI, n, .inl (upd f i.toNatClampNeg x)))) H1 locs1 → W p l e R s m args below meth c H1 locs1 cells slots Q (F0 m (pc + 1) ls rest)) : W p l e R s m args below meth c H locs cells slots Q (F0 m pc ls (.int x :: .int i :: .ref a :: rest)) :=
  va_iast F.1.1 F.1.2.1 F.2.1 hw.1 hw.2.1 hw.2.2.1 q0 0 he rfl hin hdg (fun H1 locs1 hP hD hS => kk H1 locs1 ⟨hP, hD, hS, hw.2.2.2⟩)
theorem kk_last (F : kk_at p m c cc nL s args Ts own G cI cJ ad A) (hw : kk_wd G A s.heap ws H locs) (q0 : Nat) {n : Nat} {f : Nat → Int64} (he : ws[q0]? = some (a, .inl (cJ, n, .inr (.inl f)))) {i : Int32} {x : Int64} (hin : vp_in i n) (hdg : decode cc pc = .ok (.lastore, 1))
    (kk : ∀ (H1 : Heap) (locs1 : List Loc), kk_wd G A s.heap (ws.set q0 (a, .inl (cJ, n, .inr (.inl (vp_updL f i.toNatClampNeg x))))) H1 locs1 → W p l e R s m args below meth c H1 locs1 cells slots Q (F0 m (pc + 1) ls rest)) : W p l e R s m args below meth c H locs cells slots Q (F0 m pc ls (.long x :: .int i :: .ref a :: rest)) :=
  va_last F.1.1 F.1.2.1 F.2.1 hw.1 hw.2.1 hw.2.2.1 q0 1 he rfl hin hdg (fun H1 locs1 hP hD hS => kk H1 locs1 ⟨hP, hD, hS, hw.2.2.2⟩)
theorem kk_alenI (F : kk_at p m c cc nL s args Ts own G cI cJ ad A) (hw : kk_wd G A s.heap ws H locs) (q0 : Nat) {n : Nat} {f : Nat → Int32} (he : ws[q0]? = some (a, .inl (cI, n, .inl f))) (hdg : decode cc pc = .ok (.arraylength, 1))
    (kk : W p l e R s m args below meth c H locs cells slots Q (F0 m (pc + 1) ls (.int (nI n) :: rest))) : W p l e R s m args below meth c H locs cells slots Q (F0 m pc ls (.ref a :: rest)) :=
  va_alen F.1.1 F.1.2.1 F.2.1 hw.1 q0 0 he rfl rfl hdg kk
theorem kk_alenL (F : kk_at p m c cc nL s args Ts own G cI cJ ad A) (hw : kk_wd G A s.heap ws H locs) (q0 : Nat) {n : Nat} {f : Nat → Int64} (he : ws[q0]? = some (a, .inl (cJ, n, .inr (.inl f)))) (hdg : decode cc pc = .ok (.arraylength, 1))
    (kk : W p l e R s m args below meth c H locs cells slots Q (F0 m (pc + 1) ls (.int (nI n) :: rest))) : W p l e R s m args below meth c H locs cells slots Q (F0 m pc ls (.ref a :: rest)) :=
  va_alen F.1.1 F.1.2.1 F.2.1 hw.1 q0 1 he rfl rfl hdg kk
/-- a static constant of Hash -/
theorem kk_gets {index : Nat} (k : Nat) (hk : k < 6) (F : kk_at p m c cc nL s args Ts own G cI cJ ad A) (hw : kk_wd G A s.heap ws H locs) (hlink : Cond.fieldLink own index "PerfectPew$Hash" (kk_en k) "LPerfectPew$Hash;" ∈ Ts) (hdg : decode cc pc = .ok (.getstatic index, 3))
    (kk : W p l e R s m args below meth c H locs cells slots Q (F0 m (pc + 3) ls (.ref (ad k) :: rest))) : W p l e R s m args below meth c H locs cells slots Q (F0 m pc ls rest) :=
  va_gets F.1.1 F.1.2.1 (F.2.2.2.1 k hk).1 hw.2.2.1 F.1.2.2.2.1 (F.1.2.2.2.2 _ hlink) (fun _ h => h) hdg kk
theorem kk_getOF {index k : Nat} {o n d : String} {v : Value} (F : kk_at p m c cc nL s args Ts own G cI cJ ad A) (hw : kk_wd G A s.heap ws H locs) (hZ : va_OF o n d v (ad k) A s s.heap) (hlink : Cond.fieldLink own index o n d ∈ Ts) (hdg : decode cc pc = .ok (.getfield index, 3))
    (kk : W p l e R s m args below meth c H locs cells slots Q (F0 m (pc + 3) ls (v :: rest))) : W p l e R s m args below meth c H locs cells slots Q (F0 m pc ls (.ref (ad k) :: rest)) := by
  obtain ⟨cf, k9, fi, f, cell, h1, h2, h3, h4, h5, h6⟩ := hZ.kept hw.2.2.1.2.1
  exact W.getf F.1.1 F.1.2.1 F.1.2.2.2.1 (F.1.2.2.2.2 _ hlink) h1 h2 h3 h4 (v := v) h5 rfl rfl hdg kk
theorem kk_max {index : Nat} {x y : Int32} (F : kk_at p m c cc nL s args Ts own G cI cJ ad A) (hls : ls.size = nL) (hlink : Cond.methodLink own index Lib.Math.max.name ∈ Ts) (hstat : Cond.static Lib.Math.max.name ∈ Ts) (hini : Cond.initialized "java/lang/Math" ∈ Ts) (hcode : Cond.code Lib.Math.max.name Lib.Math.max.code 2 (some .int) ∈ Ts)
    (hframes : 1 ≤ R.frames) (hlocals : (rest.map fun v => v.category).sum + 13 ≤ R.locals) (hcs : cells ≤ R.cells ∧ slots ≤ R.slots) (hdg : decode cc pc = .ok (.invokestatic index, 3))
    (kk : W p l e R s m args below meth c H locs cells slots Q (F0 m (pc + 3) ls (.int (if x < y then y else x) :: rest))) : W p l e R s m args below meth c H locs cells slots Q (F0 m pc ls (.int y :: .int x :: rest)) := by
  have hts := F.1.2.2.2.2
  exact va_mmax F.1.1 F.1.2.1 (F.1.2.2.1.trans hls.symm) F.1.2.2.2.1 (hts _ hlink) (hts _ hstat) (hts _ hini) (hts _ hcode) hframes hlocals hcs.1 hcs.2 hdg kk
theorem kk_min {index : Nat} {x y : Int32} (F : kk_at p m c cc nL s args Ts own G cI cJ ad A) (hls : ls.size = nL) (hlink : Cond.methodLink own index Lib.Math.min.name ∈ Ts) (hstat : Cond.static Lib.Math.min.name ∈ Ts) (hini : Cond.initialized "java/lang/Math" ∈ Ts) (hcode : Cond.code Lib.Math.min.name Lib.Math.min.code 2 (some .int) ∈ Ts)
    (hframes : 1 ≤ R.frames) (hlocals : (rest.map fun v => v.category).sum + 13 ≤ R.locals) (hcs : cells ≤ R.cells ∧ slots ≤ R.slots) (hdg : decode cc pc = .ok (.invokestatic index, 3))
    (kk : W p l e R s m args below meth c H locs cells slots Q (F0 m (pc + 3) ls (.int (if y < x then y else x) :: rest))) : W p l e R s m args below meth c H locs cells slots Q (F0 m pc ls (.int y :: .int x :: rest)) := by
  have hts := F.1.2.2.2.2
  exact va_mmin F.1.1 F.1.2.1 (F.1.2.2.1.trans hls.symm) F.1.2.2.2.1 (hts _ hlink) (hts _ hstat) (hts _ hini) (hts _ hcode) hframes hlocals hcs.1 hcs.2 hdg kk
end KKINS
/-! the pure side: fuel for loops, guards for what a machine asks -/
def kk_iter {σ ρ : Type} (f : σ → Option (σ ⊕ ρ)) : Nat → σ → Option ρ
  | 0, _ => none
  | n + 1, s => (f s).bind (fun x => Sum.elim (fun s' => kk_iter f n s') (fun r => some r) x)
theorem kk_iter0 {σ ρ : Type} {f : σ → Option (σ ⊕ ρ)} {s : σ} {r : ρ} {P : Prop} (h : kk_iter f 0 s = some r) : P := nomatch h
theorem kk_iterS {σ ρ : Type} {f : σ → Option (σ ⊕ ρ)} {n : Nat} {s : σ} {r : ρ} (h : kk_iter f (n + 1) s = some r) : ∃ x, f s = some x ∧ (Sum.elim (fun s' => kk_iter f n s') (fun r => some r) x) = some r := by
  rw [kk_iter] at h
  exact Option.bind_eq_some_iff.mp h
theorem kk_bind {α β : Type} {o : Option α} {f : α → Option β} {b : β} (h : o.bind f = some b) : ∃ a, o = some a ∧ f a = some b := Option.bind_eq_some_iff.mp h
def kk_rd {α : Type} (n : Nat) (f : Nat → α) (i : Int32) : Option α := if i < 0 ∨ n ≤ i.toNatClampNeg then none else some (f i.toNatClampNeg)
theorem kk_rd_ok {α : Type} {n : Nat} {f : Nat → α} {i : Int32} {v : α} (h : kk_rd n f i = some v) : vp_in i n ∧ f i.toNatClampNeg = v := by
  unfold kk_rd at h
  split at h
  · cases h
  · next h1 => exact ⟨h1, Option.some.inj h⟩
def kk_wr (n : Nat) (f : Nat → Int32) (i : Int32) (x : Int32) : Option (Nat → Int32) := if i < 0 ∨ n ≤ i.toNatClampNeg then none else some (upd f i.toNatClampNeg x)
theorem kk_wr_ok {n : Nat} {f g : Nat → Int32} {i x : Int32} (h : kk_wr n f i x = some g) : vp_in i n ∧ upd f i.toNatClampNeg x = g := by
  unfold kk_wr at h
  split at h
  · cases h
  · next h1 => exact ⟨h1, Option.some.inj h⟩
def kk_wrL (n : Nat) (f : Nat → Int64) (i : Int32) (x : Int64) : Option (Nat → Int64) := if i < 0 ∨ n ≤ i.toNatClampNeg then none else some (vp_updL f i.toNatClampNeg x)
theorem kk_wrL_ok {n : Nat} {f g : Nat → Int64} {i : Int32} {x : Int64} (h : kk_wrL n f i x = some g) : vp_in i n ∧ vp_updL f i.toNatClampNeg x = g := by
  unfold kk_wrL at h
  split at h
  · cases h
  · next h1 => exact ⟨h1, Option.some.inj h⟩
/-- a divisor -/
def kk_nz (y : Int32) : Option Unit := if y = 0 then none else some ()
theorem kk_nz_ok {y : Int32} {u : Unit} (h : kk_nz y = some u) : ¬ y = 0 := by
  unfold kk_nz at h
  split at h
  · cases h
  · next h1 => exact h1
def kk_nzL (y : Int64) : Option Unit := if y = 0 then none else some ()
theorem kk_nzL_ok {y : Int64} {u : Unit} (h : kk_nzL y = some u) : ¬ y = 0 := by
  unfold kk_nzL at h
  split at h
  · cases h
  · next h1 => exact h1
/-- an int that stands for a boolean -/
def kk_bl (y : Int32) : Option Unit := if y = 0 ∨ y = 1 then some () else none
theorem kk_bl_ok {y : Int32} {u : Unit} (h : kk_bl y = some u) : y = 0 ∨ y = 1 := by
  unfold kk_bl at h
  split at h
  · next h1 => exact h1
  · cases h
theorem kk_bl_nar {y : Int32} (h : y = 0 ∨ y = 1) : narrow .boolean (.int y) = .int y ∧ fits .boolean (.int y) = true := by
  rcases h with rfl | rfl <;> decide
abbrev kk_div (x y : Int32) : Int32 := x / y
abbrev kk_rem (x y : Int32) : Int32 := x - x / y * y
abbrev kk_remL (x y : Int64) : Int64 := x - x / y * y
end
