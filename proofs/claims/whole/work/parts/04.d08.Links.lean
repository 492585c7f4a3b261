/-! Decode rows by program. -/
theorem d_Links_init_0 : decode b_Links_init 0 = .ok (.aload_n 0, 1) := by decide +kernel
theorem d_Links_init_1 : decode b_Links_init 1 = .ok (.invokespecial 3, 3) := by decide +kernel
theorem d_Links_init_4 : decode b_Links_init 4 = .ok (.aload_n 0, 1) := by decide +kernel
theorem d_Links_init_5 : decode b_Links_init 5 = .ok (.bipush 12, 2) := by decide +kernel
theorem d_Links_init_7 : decode b_Links_init 7 = .ok (.bipush 12, 2) := by decide +kernel
theorem d_Links_init_9 : decode b_Links_init 9 = .ok (.multianewarray 9 2, 4) := by decide +kernel
theorem d_Links_init_13 : decode b_Links_init 13 = .ok (.putfield 11, 3) := by decide +kernel
theorem d_Links_init_16 : decode b_Links_init 16 = .ok (.aload_n 0, 1) := by decide +kernel
theorem d_Links_init_17 : decode b_Links_init 17 = .ok (.bipush 12, 2) := by decide +kernel
theorem d_Links_init_19 : decode b_Links_init 19 = .ok (.bipush 12, 2) := by decide +kernel
theorem d_Links_init_21 : decode b_Links_init 21 = .ok (.multianewarray 9 2, 4) := by decide +kernel
theorem d_Links_init_25 : decode b_Links_init 25 = .ok (.putfield 16, 3) := by decide +kernel
theorem d_Links_init_28 : decode b_Links_init 28 = .ok (.return_, 1) := by decide +kernel
theorem d_Links_exists_0 : decode b_Links_exists 0 = .ok (.aload_n 0, 1) := by decide +kernel
theorem d_Links_exists_1 : decode b_Links_exists 1 = .ok (.getfield 11, 3) := by decide +kernel
theorem d_Links_exists_4 : decode b_Links_exists 4 = .ok (.iload_n 1, 1) := by decide +kernel
theorem d_Links_exists_5 : decode b_Links_exists 5 = .ok (.aaload, 1) := by decide +kernel
theorem d_Links_exists_6 : decode b_Links_exists 6 = .ok (.iload_n 2, 1) := by decide +kernel
theorem d_Links_exists_7 : decode b_Links_exists 7 = .ok (.iaload, 1) := by decide +kernel
theorem d_Links_exists_8 : decode b_Links_exists 8 = .ok (.ifCond .eq 7, 3) := by decide +kernel
theorem d_Links_exists_11 : decode b_Links_exists 11 = .ok (.iconst 1, 1) := by decide +kernel
theorem d_Links_exists_12 : decode b_Links_exists 12 = .ok (.goto 4, 3) := by decide +kernel
theorem d_Links_exists_15 : decode b_Links_exists 15 = .ok (.iconst 0, 1) := by decide +kernel
theorem d_Links_exists_16 : decode b_Links_exists 16 = .ok (.ireturn, 1) := by decide +kernel
theorem d_Links_isWhole_0 : decode b_Links_isWhole 0 = .ok (.aload_n 0, 1) := by decide +kernel
theorem d_Links_isWhole_1 : decode b_Links_isWhole 1 = .ok (.getfield 11, 3) := by decide +kernel
theorem d_Links_isWhole_4 : decode b_Links_isWhole 4 = .ok (.iload_n 1, 1) := by decide +kernel
theorem d_Links_isWhole_5 : decode b_Links_isWhole 5 = .ok (.aaload, 1) := by decide +kernel
theorem d_Links_isWhole_6 : decode b_Links_isWhole 6 = .ok (.iload_n 2, 1) := by decide +kernel
theorem d_Links_isWhole_7 : decode b_Links_isWhole 7 = .ok (.iaload, 1) := by decide +kernel
theorem d_Links_isWhole_8 : decode b_Links_isWhole 8 = .ok (.iconst 1, 1) := by decide +kernel
theorem d_Links_isWhole_9 : decode b_Links_isWhole 9 = .ok (.if_icmp .ne 7, 3) := by decide +kernel
theorem d_Links_isWhole_12 : decode b_Links_isWhole 12 = .ok (.iconst 1, 1) := by decide +kernel
theorem d_Links_isWhole_13 : decode b_Links_isWhole 13 = .ok (.goto 4, 3) := by decide +kernel
theorem d_Links_isWhole_16 : decode b_Links_isWhole 16 = .ok (.iconst 0, 1) := by decide +kernel
theorem d_Links_isWhole_17 : decode b_Links_isWhole 17 = .ok (.ireturn, 1) := by decide +kernel
theorem d_Links_isCut_0 : decode b_Links_isCut 0 = .ok (.aload_n 0, 1) := by decide +kernel
theorem d_Links_isCut_1 : decode b_Links_isCut 1 = .ok (.getfield 11, 3) := by decide +kernel
theorem d_Links_isCut_4 : decode b_Links_isCut 4 = .ok (.iload_n 1, 1) := by decide +kernel
theorem d_Links_isCut_5 : decode b_Links_isCut 5 = .ok (.aaload, 1) := by decide +kernel
theorem d_Links_isCut_6 : decode b_Links_isCut 6 = .ok (.iload_n 2, 1) := by decide +kernel
theorem d_Links_isCut_7 : decode b_Links_isCut 7 = .ok (.iaload, 1) := by decide +kernel
theorem d_Links_isCut_8 : decode b_Links_isCut 8 = .ok (.iconst 2, 1) := by decide +kernel
theorem d_Links_isCut_9 : decode b_Links_isCut 9 = .ok (.if_icmp .ne 7, 3) := by decide +kernel
theorem d_Links_isCut_12 : decode b_Links_isCut 12 = .ok (.iconst 1, 1) := by decide +kernel
theorem d_Links_isCut_13 : decode b_Links_isCut 13 = .ok (.goto 4, 3) := by decide +kernel
theorem d_Links_isCut_16 : decode b_Links_isCut 16 = .ok (.iconst 0, 1) := by decide +kernel
theorem d_Links_isCut_17 : decode b_Links_isCut 17 = .ok (.ireturn, 1) := by decide +kernel
theorem d_Links_isKnown_0 : decode b_Links_isKnown 0 = .ok (.aload_n 0, 1) := by decide +kernel
theorem d_Links_isKnown_1 : decode b_Links_isKnown 1 = .ok (.getfield 16, 3) := by decide +kernel
theorem d_Links_isKnown_4 : decode b_Links_isKnown 4 = .ok (.iload_n 1, 1) := by decide +kernel
theorem d_Links_isKnown_5 : decode b_Links_isKnown 5 = .ok (.aaload, 1) := by decide +kernel
theorem d_Links_isKnown_6 : decode b_Links_isKnown 6 = .ok (.iload_n 2, 1) := by decide +kernel
theorem d_Links_isKnown_7 : decode b_Links_isKnown 7 = .ok (.iaload, 1) := by decide +kernel
theorem d_Links_isKnown_8 : decode b_Links_isKnown 8 = .ok (.ifCond .eq 7, 3) := by decide +kernel
theorem d_Links_isKnown_11 : decode b_Links_isKnown 11 = .ok (.iconst 1, 1) := by decide +kernel
theorem d_Links_isKnown_12 : decode b_Links_isKnown 12 = .ok (.goto 4, 3) := by decide +kernel
theorem d_Links_isKnown_15 : decode b_Links_isKnown 15 = .ok (.iconst 0, 1) := by decide +kernel
theorem d_Links_isKnown_16 : decode b_Links_isKnown 16 = .ok (.ireturn, 1) := by decide +kernel
theorem d_Links_knownWeight_0 : decode b_Links_knownWeight 0 = .ok (.aload_n 0, 1) := by decide +kernel
theorem d_Links_knownWeight_1 : decode b_Links_knownWeight 1 = .ok (.getfield 16, 3) := by decide +kernel
theorem d_Links_knownWeight_4 : decode b_Links_knownWeight 4 = .ok (.iload_n 1, 1) := by decide +kernel
theorem d_Links_knownWeight_5 : decode b_Links_knownWeight 5 = .ok (.aaload, 1) := by decide +kernel
theorem d_Links_knownWeight_6 : decode b_Links_knownWeight 6 = .ok (.iload_n 2, 1) := by decide +kernel
theorem d_Links_knownWeight_7 : decode b_Links_knownWeight 7 = .ok (.iaload, 1) := by decide +kernel
theorem d_Links_knownWeight_8 : decode b_Links_knownWeight 8 = .ok (.ireturn, 1) := by decide +kernel
theorem d_Links_make_0 : decode b_Links_make 0 = .ok (.aload_n 0, 1) := by decide +kernel
theorem d_Links_make_1 : decode b_Links_make 1 = .ok (.iload_n 1, 1) := by decide +kernel
theorem d_Links_make_2 : decode b_Links_make 2 = .ok (.iload_n 2, 1) := by decide +kernel
theorem d_Links_make_3 : decode b_Links_make 3 = .ok (.iconst 1, 1) := by decide +kernel
theorem d_Links_make_4 : decode b_Links_make 4 = .ok (.invokevirtual 19, 3) := by decide +kernel
theorem d_Links_make_7 : decode b_Links_make 7 = .ok (.aload_n 0, 1) := by decide +kernel
theorem d_Links_make_8 : decode b_Links_make 8 = .ok (.getfield 16, 3) := by decide +kernel
theorem d_Links_make_11 : decode b_Links_make 11 = .ok (.iload_n 1, 1) := by decide +kernel
theorem d_Links_make_12 : decode b_Links_make 12 = .ok (.aaload, 1) := by decide +kernel
theorem d_Links_make_13 : decode b_Links_make 13 = .ok (.iload_n 2, 1) := by decide +kernel
theorem d_Links_make_14 : decode b_Links_make 14 = .ok (.iload_n 3, 1) := by decide +kernel
theorem d_Links_make_15 : decode b_Links_make 15 = .ok (.iastore, 1) := by decide +kernel
theorem d_Links_make_16 : decode b_Links_make 16 = .ok (.aload_n 0, 1) := by decide +kernel
theorem d_Links_make_17 : decode b_Links_make 17 = .ok (.getfield 16, 3) := by decide +kernel
theorem d_Links_make_20 : decode b_Links_make 20 = .ok (.iload_n 2, 1) := by decide +kernel
theorem d_Links_make_21 : decode b_Links_make 21 = .ok (.aaload, 1) := by decide +kernel
theorem d_Links_make_22 : decode b_Links_make 22 = .ok (.iload_n 1, 1) := by decide +kernel
theorem d_Links_make_23 : decode b_Links_make 23 = .ok (.iload_n 3, 1) := by decide +kernel
theorem d_Links_make_24 : decode b_Links_make 24 = .ok (.iastore, 1) := by decide +kernel
theorem d_Links_make_25 : decode b_Links_make 25 = .ok (.return_, 1) := by decide +kernel
theorem d_Links_sever_0 : decode b_Links_sever 0 = .ok (.aload_n 0, 1) := by decide +kernel
theorem d_Links_sever_1 : decode b_Links_sever 1 = .ok (.iload_n 1, 1) := by decide +kernel
theorem d_Links_sever_2 : decode b_Links_sever 2 = .ok (.iload_n 2, 1) := by decide +kernel
theorem d_Links_sever_3 : decode b_Links_sever 3 = .ok (.iconst 2, 1) := by decide +kernel
theorem d_Links_sever_4 : decode b_Links_sever 4 = .ok (.invokevirtual 19, 3) := by decide +kernel
theorem d_Links_sever_7 : decode b_Links_sever 7 = .ok (.return_, 1) := by decide +kernel
theorem d_Links_unlearn_0 : decode b_Links_unlearn 0 = .ok (.aload_n 0, 1) := by decide +kernel
theorem d_Links_unlearn_1 : decode b_Links_unlearn 1 = .ok (.getfield 16, 3) := by decide +kernel
theorem d_Links_unlearn_4 : decode b_Links_unlearn 4 = .ok (.iload_n 1, 1) := by decide +kernel
theorem d_Links_unlearn_5 : decode b_Links_unlearn 5 = .ok (.aaload, 1) := by decide +kernel
theorem d_Links_unlearn_6 : decode b_Links_unlearn 6 = .ok (.iload_n 2, 1) := by decide +kernel
theorem d_Links_unlearn_7 : decode b_Links_unlearn 7 = .ok (.iconst 0, 1) := by decide +kernel
theorem d_Links_unlearn_8 : decode b_Links_unlearn 8 = .ok (.iastore, 1) := by decide +kernel
theorem d_Links_unlearn_9 : decode b_Links_unlearn 9 = .ok (.aload_n 0, 1) := by decide +kernel
theorem d_Links_unlearn_10 : decode b_Links_unlearn 10 = .ok (.iload_n 2, 1) := by decide +kernel
theorem d_Links_unlearn_11 : decode b_Links_unlearn 11 = .ok (.iload_n 1, 1) := by decide +kernel
theorem d_Links_unlearn_12 : decode b_Links_unlearn 12 = .ok (.invokevirtual 23, 3) := by decide +kernel
theorem d_Links_unlearn_15 : decode b_Links_unlearn 15 = .ok (.ifCond .ne 10, 3) := by decide +kernel
theorem d_Links_unlearn_18 : decode b_Links_unlearn 18 = .ok (.aload_n 0, 1) := by decide +kernel
theorem d_Links_unlearn_19 : decode b_Links_unlearn 19 = .ok (.iload_n 1, 1) := by decide +kernel
theorem d_Links_unlearn_20 : decode b_Links_unlearn 20 = .ok (.iload_n 2, 1) := by decide +kernel
theorem d_Links_unlearn_21 : decode b_Links_unlearn 21 = .ok (.iconst 0, 1) := by decide +kernel
theorem d_Links_unlearn_22 : decode b_Links_unlearn 22 = .ok (.invokevirtual 19, 3) := by decide +kernel
theorem d_Links_unlearn_25 : decode b_Links_unlearn 25 = .ok (.return_, 1) := by decide +kernel
theorem d_Links_become_0 : decode b_Links_become 0 = .ok (.aload_n 0, 1) := by decide +kernel
theorem d_Links_become_1 : decode b_Links_become 1 = .ok (.getfield 11, 3) := by decide +kernel
theorem d_Links_become_4 : decode b_Links_become 4 = .ok (.iload_n 1, 1) := by decide +kernel
theorem d_Links_become_5 : decode b_Links_become 5 = .ok (.aaload, 1) := by decide +kernel
theorem d_Links_become_6 : decode b_Links_become 6 = .ok (.iload_n 2, 1) := by decide +kernel
theorem d_Links_become_7 : decode b_Links_become 7 = .ok (.iload_n 3, 1) := by decide +kernel
theorem d_Links_become_8 : decode b_Links_become 8 = .ok (.iastore, 1) := by decide +kernel
theorem d_Links_become_9 : decode b_Links_become 9 = .ok (.aload_n 0, 1) := by decide +kernel
theorem d_Links_become_10 : decode b_Links_become 10 = .ok (.getfield 11, 3) := by decide +kernel
theorem d_Links_become_13 : decode b_Links_become 13 = .ok (.iload_n 2, 1) := by decide +kernel
theorem d_Links_become_14 : decode b_Links_become 14 = .ok (.aaload, 1) := by decide +kernel
theorem d_Links_become_15 : decode b_Links_become 15 = .ok (.iload_n 1, 1) := by decide +kernel
theorem d_Links_become_16 : decode b_Links_become 16 = .ok (.iload_n 3, 1) := by decide +kernel
theorem d_Links_become_17 : decode b_Links_become 17 = .ok (.iastore, 1) := by decide +kernel
theorem d_Links_become_18 : decode b_Links_become 18 = .ok (.return_, 1) := by decide +kernel
