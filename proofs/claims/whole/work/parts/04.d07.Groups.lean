/-! Decode rows by program. -/
theorem d_Groups_init_0 : decode b_Groups_init 0 = .ok (.aload_n 0, 1) := by decide +kernel
theorem d_Groups_init_1 : decode b_Groups_init 1 = .ok (.invokespecial 3, 3) := by decide +kernel
theorem d_Groups_init_4 : decode b_Groups_init 4 = .ok (.aload_n 0, 1) := by decide +kernel
theorem d_Groups_init_5 : decode b_Groups_init 5 = .ok (.bipush 8, 2) := by decide +kernel
theorem d_Groups_init_7 : decode b_Groups_init 7 = .ok (.newarray .int, 2) := by decide +kernel
theorem d_Groups_init_9 : decode b_Groups_init 9 = .ok (.putfield 9, 3) := by decide +kernel
theorem d_Groups_init_12 : decode b_Groups_init 12 = .ok (.aload_n 0, 1) := by decide +kernel
theorem d_Groups_init_13 : decode b_Groups_init 13 = .ok (.bipush 8, 2) := by decide +kernel
theorem d_Groups_init_15 : decode b_Groups_init 15 = .ok (.newarray .int, 2) := by decide +kernel
theorem d_Groups_init_17 : decode b_Groups_init 17 = .ok (.putfield 15, 3) := by decide +kernel
theorem d_Groups_init_20 : decode b_Groups_init 20 = .ok (.aload_n 0, 1) := by decide +kernel
theorem d_Groups_init_21 : decode b_Groups_init 21 = .ok (.bipush 8, 2) := by decide +kernel
theorem d_Groups_init_23 : decode b_Groups_init 23 = .ok (.newarray .int, 2) := by decide +kernel
theorem d_Groups_init_25 : decode b_Groups_init 25 = .ok (.putfield 18, 3) := by decide +kernel
theorem d_Groups_init_28 : decode b_Groups_init 28 = .ok (.aload_n 0, 1) := by decide +kernel
theorem d_Groups_init_29 : decode b_Groups_init 29 = .ok (.bipush 12, 2) := by decide +kernel
theorem d_Groups_init_31 : decode b_Groups_init 31 = .ok (.bipush 8, 2) := by decide +kernel
theorem d_Groups_init_33 : decode b_Groups_init 33 = .ok (.multianewarray 21 2, 4) := by decide +kernel
theorem d_Groups_init_37 : decode b_Groups_init 37 = .ok (.putfield 23, 3) := by decide +kernel
theorem d_Groups_init_40 : decode b_Groups_init 40 = .ok (.aload_n 0, 1) := by decide +kernel
theorem d_Groups_init_41 : decode b_Groups_init 41 = .ok (.new 26, 3) := by decide +kernel
theorem d_Groups_init_44 : decode b_Groups_init 44 = .ok (.dup, 1) := by decide +kernel
theorem d_Groups_init_45 : decode b_Groups_init 45 = .ok (.iconst 3, 1) := by decide +kernel
theorem d_Groups_init_46 : decode b_Groups_init 46 = .ok (.invokespecial 28, 3) := by decide +kernel
theorem d_Groups_init_49 : decode b_Groups_init 49 = .ok (.putfield 31, 3) := by decide +kernel
theorem d_Groups_init_52 : decode b_Groups_init 52 = .ok (.aload_n 0, 1) := by decide +kernel
theorem d_Groups_init_53 : decode b_Groups_init 53 = .ok (.aload_n 1, 1) := by decide +kernel
theorem d_Groups_init_54 : decode b_Groups_init 54 = .ok (.putfield 35, 3) := by decide +kernel
theorem d_Groups_init_57 : decode b_Groups_init 57 = .ok (.iconst 0, 1) := by decide +kernel
theorem d_Groups_init_58 : decode b_Groups_init 58 = .ok (.istore_n 2, 1) := by decide +kernel
theorem d_Groups_init_59 : decode b_Groups_init 59 = .ok (.iload_n 2, 1) := by decide +kernel
theorem d_Groups_init_60 : decode b_Groups_init 60 = .ok (.bipush 8, 2) := by decide +kernel
theorem d_Groups_init_62 : decode b_Groups_init 62 = .ok (.if_icmp .ge 16, 3) := by decide +kernel
theorem d_Groups_init_65 : decode b_Groups_init 65 = .ok (.aload_n 0, 1) := by decide +kernel
theorem d_Groups_init_66 : decode b_Groups_init 66 = .ok (.getfield 9, 3) := by decide +kernel
theorem d_Groups_init_69 : decode b_Groups_init 69 = .ok (.iload_n 2, 1) := by decide +kernel
theorem d_Groups_init_70 : decode b_Groups_init 70 = .ok (.iconst (-1), 1) := by decide +kernel
theorem d_Groups_init_71 : decode b_Groups_init 71 = .ok (.iastore, 1) := by decide +kernel
theorem d_Groups_init_72 : decode b_Groups_init 72 = .ok (.iinc 2 1, 3) := by decide +kernel
theorem d_Groups_init_75 : decode b_Groups_init 75 = .ok (.goto (-16), 3) := by decide +kernel
theorem d_Groups_init_78 : decode b_Groups_init 78 = .ok (.return_, 1) := by decide +kernel
theorem d_Groups_onTheWay_0 : decode b_Groups_onTheWay 0 = .ok (.aload_n 0, 1) := by decide +kernel
theorem d_Groups_onTheWay_1 : decode b_Groups_onTheWay 1 = .ok (.getfield 31, 3) := by decide +kernel
theorem d_Groups_onTheWay_4 : decode b_Groups_onTheWay 4 = .ok (.invokevirtual 39, 3) := by decide +kernel
theorem d_Groups_onTheWay_7 : decode b_Groups_onTheWay 7 = .ok (.ireturn, 1) := by decide +kernel
theorem d_Groups_ingressOf_0 : decode b_Groups_ingressOf 0 = .ok (.aload_n 0, 1) := by decide +kernel
theorem d_Groups_ingressOf_1 : decode b_Groups_ingressOf 1 = .ok (.getfield 9, 3) := by decide +kernel
theorem d_Groups_ingressOf_4 : decode b_Groups_ingressOf 4 = .ok (.iload_n 1, 1) := by decide +kernel
theorem d_Groups_ingressOf_5 : decode b_Groups_ingressOf 5 = .ok (.iaload, 1) := by decide +kernel
theorem d_Groups_ingressOf_6 : decode b_Groups_ingressOf 6 = .ok (.ireturn, 1) := by decide +kernel
theorem d_Groups_heardOf_0 : decode b_Groups_heardOf 0 = .ok (.aload_n 0, 1) := by decide +kernel
theorem d_Groups_heardOf_1 : decode b_Groups_heardOf 1 = .ok (.getfield 15, 3) := by decide +kernel
theorem d_Groups_heardOf_4 : decode b_Groups_heardOf 4 = .ok (.iload_n 1, 1) := by decide +kernel
theorem d_Groups_heardOf_5 : decode b_Groups_heardOf 5 = .ok (.iaload, 1) := by decide +kernel
theorem d_Groups_heardOf_6 : decode b_Groups_heardOf 6 = .ok (.ireturn, 1) := by decide +kernel
theorem d_Groups_receiversOf_0 : decode b_Groups_receiversOf 0 = .ok (.aload_n 0, 1) := by decide +kernel
theorem d_Groups_receiversOf_1 : decode b_Groups_receiversOf 1 = .ok (.getfield 23, 3) := by decide +kernel
theorem d_Groups_receiversOf_4 : decode b_Groups_receiversOf 4 = .ok (.iload_n 1, 1) := by decide +kernel
theorem d_Groups_receiversOf_5 : decode b_Groups_receiversOf 5 = .ok (.aaload, 1) := by decide +kernel
theorem d_Groups_receiversOf_6 : decode b_Groups_receiversOf 6 = .ok (.iload_n 2, 1) := by decide +kernel
theorem d_Groups_receiversOf_7 : decode b_Groups_receiversOf 7 = .ok (.iaload, 1) := by decide +kernel
theorem d_Groups_receiversOf_8 : decode b_Groups_receiversOf 8 = .ok (.ireturn, 1) := by decide +kernel
theorem d_Groups_isIdle_0 : decode b_Groups_isIdle 0 = .ok (.iconst 0, 1) := by decide +kernel
theorem d_Groups_isIdle_1 : decode b_Groups_isIdle 1 = .ok (.istore_n 2, 1) := by decide +kernel
theorem d_Groups_isIdle_2 : decode b_Groups_isIdle 2 = .ok (.iload_n 2, 1) := by decide +kernel
theorem d_Groups_isIdle_3 : decode b_Groups_isIdle 3 = .ok (.bipush 12, 2) := by decide +kernel
theorem d_Groups_isIdle_5 : decode b_Groups_isIdle 5 = .ok (.if_icmp .ge 22, 3) := by decide +kernel
theorem d_Groups_isIdle_8 : decode b_Groups_isIdle 8 = .ok (.aload_n 0, 1) := by decide +kernel
theorem d_Groups_isIdle_9 : decode b_Groups_isIdle 9 = .ok (.getfield 23, 3) := by decide +kernel
theorem d_Groups_isIdle_12 : decode b_Groups_isIdle 12 = .ok (.iload_n 2, 1) := by decide +kernel
theorem d_Groups_isIdle_13 : decode b_Groups_isIdle 13 = .ok (.aaload, 1) := by decide +kernel
theorem d_Groups_isIdle_14 : decode b_Groups_isIdle 14 = .ok (.iload_n 1, 1) := by decide +kernel
theorem d_Groups_isIdle_15 : decode b_Groups_isIdle 15 = .ok (.iaload, 1) := by decide +kernel
theorem d_Groups_isIdle_16 : decode b_Groups_isIdle 16 = .ok (.ifCond .eq 5, 3) := by decide +kernel
theorem d_Groups_isIdle_19 : decode b_Groups_isIdle 19 = .ok (.iconst 0, 1) := by decide +kernel
theorem d_Groups_isIdle_20 : decode b_Groups_isIdle 20 = .ok (.ireturn, 1) := by decide +kernel
theorem d_Groups_isIdle_21 : decode b_Groups_isIdle 21 = .ok (.iinc 2 1, 3) := by decide +kernel
theorem d_Groups_isIdle_24 : decode b_Groups_isIdle 24 = .ok (.goto (-22), 3) := by decide +kernel
theorem d_Groups_isIdle_27 : decode b_Groups_isIdle 27 = .ok (.aload_n 0, 1) := by decide +kernel
theorem d_Groups_isIdle_28 : decode b_Groups_isIdle 28 = .ok (.getfield 18, 3) := by decide +kernel
theorem d_Groups_isIdle_31 : decode b_Groups_isIdle 31 = .ok (.iload_n 1, 1) := by decide +kernel
theorem d_Groups_isIdle_32 : decode b_Groups_isIdle 32 = .ok (.iaload, 1) := by decide +kernel
theorem d_Groups_isIdle_33 : decode b_Groups_isIdle 33 = .ok (.ifCond .ne 7, 3) := by decide +kernel
theorem d_Groups_isIdle_36 : decode b_Groups_isIdle 36 = .ok (.iconst 1, 1) := by decide +kernel
theorem d_Groups_isIdle_37 : decode b_Groups_isIdle 37 = .ok (.goto 4, 3) := by decide +kernel
theorem d_Groups_isIdle_40 : decode b_Groups_isIdle 40 = .ok (.iconst 0, 1) := by decide +kernel
theorem d_Groups_isIdle_41 : decode b_Groups_isIdle 41 = .ok (.ireturn, 1) := by decide +kernel
theorem d_Groups_appoint_0 : decode b_Groups_appoint 0 = .ok (.aload_n 0, 1) := by decide +kernel
theorem d_Groups_appoint_1 : decode b_Groups_appoint 1 = .ok (.getfield 9, 3) := by decide +kernel
theorem d_Groups_appoint_4 : decode b_Groups_appoint 4 = .ok (.iload_n 1, 1) := by decide +kernel
theorem d_Groups_appoint_5 : decode b_Groups_appoint 5 = .ok (.iload_n 2, 1) := by decide +kernel
theorem d_Groups_appoint_6 : decode b_Groups_appoint 6 = .ok (.iastore, 1) := by decide +kernel
theorem d_Groups_appoint_7 : decode b_Groups_appoint 7 = .ok (.aload_n 0, 1) := by decide +kernel
theorem d_Groups_appoint_8 : decode b_Groups_appoint 8 = .ok (.getfield 15, 3) := by decide +kernel
theorem d_Groups_appoint_11 : decode b_Groups_appoint 11 = .ok (.iload_n 1, 1) := by decide +kernel
theorem d_Groups_appoint_12 : decode b_Groups_appoint 12 = .ok (.iconst 0, 1) := by decide +kernel
theorem d_Groups_appoint_13 : decode b_Groups_appoint 13 = .ok (.iastore, 1) := by decide +kernel
theorem d_Groups_appoint_14 : decode b_Groups_appoint 14 = .ok (.return_, 1) := by decide +kernel
theorem d_Groups_hasRoomForCount_0 : decode b_Groups_hasRoomForCount 0 = .ok (.aload_n 0, 1) := by decide +kernel
theorem d_Groups_hasRoomForCount_1 : decode b_Groups_hasRoomForCount 1 = .ok (.getfield 31, 3) := by decide +kernel
theorem d_Groups_hasRoomForCount_4 : decode b_Groups_hasRoomForCount 4 = .ok (.invokevirtual 39, 3) := by decide +kernel
theorem d_Groups_hasRoomForCount_7 : decode b_Groups_hasRoomForCount 7 = .ok (.sipush 4000, 3) := by decide +kernel
theorem d_Groups_hasRoomForCount_10 : decode b_Groups_hasRoomForCount 10 = .ok (.if_icmp .lt 13, 3) := by decide +kernel
theorem d_Groups_hasRoomForCount_13 : decode b_Groups_hasRoomForCount 13 = .ok (.aload_n 0, 1) := by decide +kernel
theorem d_Groups_hasRoomForCount_14 : decode b_Groups_hasRoomForCount 14 = .ok (.iload_n 1, 1) := by decide +kernel
theorem d_Groups_hasRoomForCount_15 : decode b_Groups_hasRoomForCount 15 = .ok (.iload_n 2, 1) := by decide +kernel
theorem d_Groups_hasRoomForCount_16 : decode b_Groups_hasRoomForCount 16 = .ok (.iload_n 3, 1) := by decide +kernel
theorem d_Groups_hasRoomForCount_17 : decode b_Groups_hasRoomForCount 17 = .ok (.invokevirtual 43, 3) := by decide +kernel
theorem d_Groups_hasRoomForCount_20 : decode b_Groups_hasRoomForCount 20 = .ok (.ifCond .ne 7, 3) := by decide +kernel
theorem d_Groups_hasRoomForCount_23 : decode b_Groups_hasRoomForCount 23 = .ok (.iconst 1, 1) := by decide +kernel
theorem d_Groups_hasRoomForCount_24 : decode b_Groups_hasRoomForCount 24 = .ok (.goto 4, 3) := by decide +kernel
theorem d_Groups_hasRoomForCount_27 : decode b_Groups_hasRoomForCount 27 = .ok (.iconst 0, 1) := by decide +kernel
theorem d_Groups_hasRoomForCount_28 : decode b_Groups_hasRoomForCount 28 = .ok (.ireturn, 1) := by decide +kernel
theorem d_Groups_recount_0 : decode b_Groups_recount 0 = .ok (.aload_n 0, 1) := by decide +kernel
theorem d_Groups_recount_1 : decode b_Groups_recount 1 = .ok (.iload_n 1, 1) := by decide +kernel
theorem d_Groups_recount_2 : decode b_Groups_recount 2 = .ok (.iload_n 2, 1) := by decide +kernel
theorem d_Groups_recount_3 : decode b_Groups_recount 3 = .ok (.iload_n 3, 1) := by decide +kernel
theorem d_Groups_recount_4 : decode b_Groups_recount 4 = .ok (.invokevirtual 43, 3) := by decide +kernel
theorem d_Groups_recount_7 : decode b_Groups_recount 7 = .ok (.istore 4, 2) := by decide +kernel
theorem d_Groups_recount_9 : decode b_Groups_recount 9 = .ok (.aload_n 0, 1) := by decide +kernel
theorem d_Groups_recount_10 : decode b_Groups_recount 10 = .ok (.getfield 23, 3) := by decide +kernel
theorem d_Groups_recount_13 : decode b_Groups_recount 13 = .ok (.iload_n 1, 1) := by decide +kernel
theorem d_Groups_recount_14 : decode b_Groups_recount 14 = .ok (.aaload, 1) := by decide +kernel
theorem d_Groups_recount_15 : decode b_Groups_recount 15 = .ok (.iload_n 2, 1) := by decide +kernel
theorem d_Groups_recount_16 : decode b_Groups_recount 16 = .ok (.iload_n 3, 1) := by decide +kernel
theorem d_Groups_recount_17 : decode b_Groups_recount 17 = .ok (.iastore, 1) := by decide +kernel
theorem d_Groups_recount_18 : decode b_Groups_recount 18 = .ok (.iload 4, 2) := by decide +kernel
theorem d_Groups_recount_20 : decode b_Groups_recount 20 = .ok (.ifCond .eq 9, 3) := by decide +kernel
theorem d_Groups_recount_23 : decode b_Groups_recount 23 = .ok (.aload_n 0, 1) := by decide +kernel
theorem d_Groups_recount_24 : decode b_Groups_recount 24 = .ok (.iload_n 1, 1) := by decide +kernel
theorem d_Groups_recount_25 : decode b_Groups_recount 25 = .ok (.iload_n 2, 1) := by decide +kernel
theorem d_Groups_recount_26 : decode b_Groups_recount 26 = .ok (.invokevirtual 47, 3) := by decide +kernel
theorem d_Groups_recount_29 : decode b_Groups_recount 29 = .ok (.return_, 1) := by decide +kernel
theorem d_Groups_tellAll_0 : decode b_Groups_tellAll 0 = .ok (.iconst 0, 1) := by decide +kernel
theorem d_Groups_tellAll_1 : decode b_Groups_tellAll 1 = .ok (.istore_n 2, 1) := by decide +kernel
theorem d_Groups_tellAll_2 : decode b_Groups_tellAll 2 = .ok (.iload_n 2, 1) := by decide +kernel
theorem d_Groups_tellAll_3 : decode b_Groups_tellAll 3 = .ok (.bipush 8, 2) := by decide +kernel
theorem d_Groups_tellAll_5 : decode b_Groups_tellAll 5 = .ok (.if_icmp .ge 25, 3) := by decide +kernel
theorem d_Groups_tellAll_8 : decode b_Groups_tellAll 8 = .ok (.aload_n 0, 1) := by decide +kernel
theorem d_Groups_tellAll_9 : decode b_Groups_tellAll 9 = .ok (.getfield 9, 3) := by decide +kernel
theorem d_Groups_tellAll_12 : decode b_Groups_tellAll 12 = .ok (.iload_n 2, 1) := by decide +kernel
theorem d_Groups_tellAll_13 : decode b_Groups_tellAll 13 = .ok (.iaload, 1) := by decide +kernel
theorem d_Groups_tellAll_14 : decode b_Groups_tellAll 14 = .ok (.iconst (-1), 1) := by decide +kernel
theorem d_Groups_tellAll_15 : decode b_Groups_tellAll 15 = .ok (.if_icmp .eq 9, 3) := by decide +kernel
theorem d_Groups_tellAll_18 : decode b_Groups_tellAll 18 = .ok (.aload_n 0, 1) := by decide +kernel
theorem d_Groups_tellAll_19 : decode b_Groups_tellAll 19 = .ok (.iload_n 1, 1) := by decide +kernel
theorem d_Groups_tellAll_20 : decode b_Groups_tellAll 20 = .ok (.iload_n 2, 1) := by decide +kernel
theorem d_Groups_tellAll_21 : decode b_Groups_tellAll 21 = .ok (.invokevirtual 47, 3) := by decide +kernel
theorem d_Groups_tellAll_24 : decode b_Groups_tellAll 24 = .ok (.iinc 2 1, 3) := by decide +kernel
theorem d_Groups_tellAll_27 : decode b_Groups_tellAll 27 = .ok (.goto (-25), 3) := by decide +kernel
theorem d_Groups_tellAll_30 : decode b_Groups_tellAll 30 = .ok (.return_, 1) := by decide +kernel
theorem d_Groups_deliverOldest_0 : decode b_Groups_deliverOldest 0 = .ok (.aload_n 0, 1) := by decide +kernel
theorem d_Groups_deliverOldest_1 : decode b_Groups_deliverOldest 1 = .ok (.getfield 31, 3) := by decide +kernel
theorem d_Groups_deliverOldest_4 : decode b_Groups_deliverOldest 4 = .ok (.iconst 0, 1) := by decide +kernel
theorem d_Groups_deliverOldest_5 : decode b_Groups_deliverOldest 5 = .ok (.iconst 0, 1) := by decide +kernel
theorem d_Groups_deliverOldest_6 : decode b_Groups_deliverOldest 6 = .ok (.invokevirtual 51, 3) := by decide +kernel
theorem d_Groups_deliverOldest_9 : decode b_Groups_deliverOldest 9 = .ok (.istore_n 1, 1) := by decide +kernel
theorem d_Groups_deliverOldest_10 : decode b_Groups_deliverOldest 10 = .ok (.aload_n 0, 1) := by decide +kernel
theorem d_Groups_deliverOldest_11 : decode b_Groups_deliverOldest 11 = .ok (.getfield 31, 3) := by decide +kernel
theorem d_Groups_deliverOldest_14 : decode b_Groups_deliverOldest 14 = .ok (.iconst 0, 1) := by decide +kernel
theorem d_Groups_deliverOldest_15 : decode b_Groups_deliverOldest 15 = .ok (.iconst 1, 1) := by decide +kernel
theorem d_Groups_deliverOldest_16 : decode b_Groups_deliverOldest 16 = .ok (.invokevirtual 51, 3) := by decide +kernel
theorem d_Groups_deliverOldest_19 : decode b_Groups_deliverOldest 19 = .ok (.istore_n 2, 1) := by decide +kernel
theorem d_Groups_deliverOldest_20 : decode b_Groups_deliverOldest 20 = .ok (.aload_n 0, 1) := by decide +kernel
theorem d_Groups_deliverOldest_21 : decode b_Groups_deliverOldest 21 = .ok (.getfield 31, 3) := by decide +kernel
theorem d_Groups_deliverOldest_24 : decode b_Groups_deliverOldest 24 = .ok (.iconst 0, 1) := by decide +kernel
theorem d_Groups_deliverOldest_25 : decode b_Groups_deliverOldest 25 = .ok (.iconst 2, 1) := by decide +kernel
theorem d_Groups_deliverOldest_26 : decode b_Groups_deliverOldest 26 = .ok (.invokevirtual 51, 3) := by decide +kernel
theorem d_Groups_deliverOldest_29 : decode b_Groups_deliverOldest 29 = .ok (.iconst 1, 1) := by decide +kernel
theorem d_Groups_deliverOldest_30 : decode b_Groups_deliverOldest 30 = .ok (.if_icmp .ne 7, 3) := by decide +kernel
theorem d_Groups_deliverOldest_33 : decode b_Groups_deliverOldest 33 = .ok (.iconst 1, 1) := by decide +kernel
theorem d_Groups_deliverOldest_34 : decode b_Groups_deliverOldest 34 = .ok (.goto 4, 3) := by decide +kernel
theorem d_Groups_deliverOldest_37 : decode b_Groups_deliverOldest 37 = .ok (.iconst 0, 1) := by decide +kernel
theorem d_Groups_deliverOldest_38 : decode b_Groups_deliverOldest 38 = .ok (.istore_n 3, 1) := by decide +kernel
theorem d_Groups_deliverOldest_39 : decode b_Groups_deliverOldest 39 = .ok (.aload_n 0, 1) := by decide +kernel
theorem d_Groups_deliverOldest_40 : decode b_Groups_deliverOldest 40 = .ok (.iload_n 1, 1) := by decide +kernel
theorem d_Groups_deliverOldest_41 : decode b_Groups_deliverOldest 41 = .ok (.invokevirtual 55, 3) := by decide +kernel
theorem d_Groups_deliverOldest_44 : decode b_Groups_deliverOldest 44 = .ok (.aload_n 0, 1) := by decide +kernel
theorem d_Groups_deliverOldest_45 : decode b_Groups_deliverOldest 45 = .ok (.getfield 15, 3) := by decide +kernel
theorem d_Groups_deliverOldest_48 : decode b_Groups_deliverOldest 48 = .ok (.iload_n 1, 1) := by decide +kernel
theorem d_Groups_deliverOldest_49 : decode b_Groups_deliverOldest 49 = .ok (.iload_n 3, 1) := by decide +kernel
theorem d_Groups_deliverOldest_50 : decode b_Groups_deliverOldest 50 = .ok (.ifCond .eq 14, 3) := by decide +kernel
theorem d_Groups_deliverOldest_53 : decode b_Groups_deliverOldest 53 = .ok (.aload_n 0, 1) := by decide +kernel
theorem d_Groups_deliverOldest_54 : decode b_Groups_deliverOldest 54 = .ok (.getfield 15, 3) := by decide +kernel
theorem d_Groups_deliverOldest_57 : decode b_Groups_deliverOldest 57 = .ok (.iload_n 1, 1) := by decide +kernel
theorem d_Groups_deliverOldest_58 : decode b_Groups_deliverOldest 58 = .ok (.iaload, 1) := by decide +kernel
theorem d_Groups_deliverOldest_59 : decode b_Groups_deliverOldest 59 = .ok (.iload_n 2, 1) := by decide +kernel
theorem d_Groups_deliverOldest_60 : decode b_Groups_deliverOldest 60 = .ok (.ior, 1) := by decide +kernel
theorem d_Groups_deliverOldest_61 : decode b_Groups_deliverOldest 61 = .ok (.goto 13, 3) := by decide +kernel
theorem d_Groups_deliverOldest_64 : decode b_Groups_deliverOldest 64 = .ok (.aload_n 0, 1) := by decide +kernel
theorem d_Groups_deliverOldest_65 : decode b_Groups_deliverOldest 65 = .ok (.getfield 15, 3) := by decide +kernel
theorem d_Groups_deliverOldest_68 : decode b_Groups_deliverOldest 68 = .ok (.iload_n 1, 1) := by decide +kernel
theorem d_Groups_deliverOldest_69 : decode b_Groups_deliverOldest 69 = .ok (.iaload, 1) := by decide +kernel
theorem d_Groups_deliverOldest_70 : decode b_Groups_deliverOldest 70 = .ok (.iload_n 2, 1) := by decide +kernel
theorem d_Groups_deliverOldest_71 : decode b_Groups_deliverOldest 71 = .ok (.iconst (-1), 1) := by decide +kernel
theorem d_Groups_deliverOldest_72 : decode b_Groups_deliverOldest 72 = .ok (.ixor, 1) := by decide +kernel
theorem d_Groups_deliverOldest_73 : decode b_Groups_deliverOldest 73 = .ok (.iand, 1) := by decide +kernel
theorem d_Groups_deliverOldest_74 : decode b_Groups_deliverOldest 74 = .ok (.iastore, 1) := by decide +kernel
theorem d_Groups_deliverOldest_75 : decode b_Groups_deliverOldest 75 = .ok (.return_, 1) := by decide +kernel
theorem d_Groups_loseOldest_0 : decode b_Groups_loseOldest 0 = .ok (.aload_n 0, 1) := by decide +kernel
theorem d_Groups_loseOldest_1 : decode b_Groups_loseOldest 1 = .ok (.getfield 31, 3) := by decide +kernel
theorem d_Groups_loseOldest_4 : decode b_Groups_loseOldest 4 = .ok (.invokevirtual 39, 3) := by decide +kernel
theorem d_Groups_loseOldest_7 : decode b_Groups_loseOldest 7 = .ok (.ifCond .ne 5, 3) := by decide +kernel
theorem d_Groups_loseOldest_10 : decode b_Groups_loseOldest 10 = .ok (.iconst 0, 1) := by decide +kernel
theorem d_Groups_loseOldest_11 : decode b_Groups_loseOldest 11 = .ok (.ireturn, 1) := by decide +kernel
theorem d_Groups_loseOldest_12 : decode b_Groups_loseOldest 12 = .ok (.aload_n 0, 1) := by decide +kernel
theorem d_Groups_loseOldest_13 : decode b_Groups_loseOldest 13 = .ok (.aload_n 0, 1) := by decide +kernel
theorem d_Groups_loseOldest_14 : decode b_Groups_loseOldest 14 = .ok (.getfield 31, 3) := by decide +kernel
theorem d_Groups_loseOldest_17 : decode b_Groups_loseOldest 17 = .ok (.iconst 0, 1) := by decide +kernel
theorem d_Groups_loseOldest_18 : decode b_Groups_loseOldest 18 = .ok (.iconst 0, 1) := by decide +kernel
theorem d_Groups_loseOldest_19 : decode b_Groups_loseOldest 19 = .ok (.invokevirtual 51, 3) := by decide +kernel
theorem d_Groups_loseOldest_22 : decode b_Groups_loseOldest 22 = .ok (.invokevirtual 55, 3) := by decide +kernel
theorem d_Groups_loseOldest_25 : decode b_Groups_loseOldest 25 = .ok (.iconst 1, 1) := by decide +kernel
theorem d_Groups_loseOldest_26 : decode b_Groups_loseOldest 26 = .ok (.ireturn, 1) := by decide +kernel
theorem d_Groups_dropOldest_0 : decode b_Groups_dropOldest 0 = .ok (.aload_n 0, 1) := by decide +kernel
theorem d_Groups_dropOldest_1 : decode b_Groups_dropOldest 1 = .ok (.getfield 31, 3) := by decide +kernel
theorem d_Groups_dropOldest_4 : decode b_Groups_dropOldest 4 = .ok (.invokevirtual 58, 3) := by decide +kernel
theorem d_Groups_dropOldest_7 : decode b_Groups_dropOldest 7 = .ok (.aload_n 0, 1) := by decide +kernel
theorem d_Groups_dropOldest_8 : decode b_Groups_dropOldest 8 = .ok (.getfield 18, 3) := by decide +kernel
theorem d_Groups_dropOldest_11 : decode b_Groups_dropOldest 11 = .ok (.iload_n 1, 1) := by decide +kernel
theorem d_Groups_dropOldest_12 : decode b_Groups_dropOldest 12 = .ok (.dup2, 1) := by decide +kernel
theorem d_Groups_dropOldest_13 : decode b_Groups_dropOldest 13 = .ok (.iaload, 1) := by decide +kernel
theorem d_Groups_dropOldest_14 : decode b_Groups_dropOldest 14 = .ok (.iconst 1, 1) := by decide +kernel
theorem d_Groups_dropOldest_15 : decode b_Groups_dropOldest 15 = .ok (.isub, 1) := by decide +kernel
theorem d_Groups_dropOldest_16 : decode b_Groups_dropOldest 16 = .ok (.iastore, 1) := by decide +kernel
theorem d_Groups_dropOldest_17 : decode b_Groups_dropOldest 17 = .ok (.return_, 1) := by decide +kernel
theorem d_Groups_needsNote_0 : decode b_Groups_needsNote 0 = .ok (.aload_n 0, 1) := by decide +kernel
theorem d_Groups_needsNote_1 : decode b_Groups_needsNote 1 = .ok (.getfield 23, 3) := by decide +kernel
theorem d_Groups_needsNote_4 : decode b_Groups_needsNote 4 = .ok (.iload_n 1, 1) := by decide +kernel
theorem d_Groups_needsNote_5 : decode b_Groups_needsNote 5 = .ok (.aaload, 1) := by decide +kernel
theorem d_Groups_needsNote_6 : decode b_Groups_needsNote 6 = .ok (.iload_n 2, 1) := by decide +kernel
theorem d_Groups_needsNote_7 : decode b_Groups_needsNote 7 = .ok (.iaload, 1) := by decide +kernel
theorem d_Groups_needsNote_8 : decode b_Groups_needsNote 8 = .ok (.ifCond .le 7, 3) := by decide +kernel
theorem d_Groups_needsNote_11 : decode b_Groups_needsNote 11 = .ok (.iconst 1, 1) := by decide +kernel
theorem d_Groups_needsNote_12 : decode b_Groups_needsNote 12 = .ok (.goto 4, 3) := by decide +kernel
theorem d_Groups_needsNote_15 : decode b_Groups_needsNote 15 = .ok (.iconst 0, 1) := by decide +kernel
theorem d_Groups_needsNote_16 : decode b_Groups_needsNote 16 = .ok (.istore 4, 2) := by decide +kernel
theorem d_Groups_needsNote_18 : decode b_Groups_needsNote 18 = .ok (.aload_n 0, 1) := by decide +kernel
theorem d_Groups_needsNote_19 : decode b_Groups_needsNote 19 = .ok (.getfield 9, 3) := by decide +kernel
theorem d_Groups_needsNote_22 : decode b_Groups_needsNote 22 = .ok (.iload_n 2, 1) := by decide +kernel
theorem d_Groups_needsNote_23 : decode b_Groups_needsNote 23 = .ok (.iaload, 1) := by decide +kernel
theorem d_Groups_needsNote_24 : decode b_Groups_needsNote 24 = .ok (.iconst (-1), 1) := by decide +kernel
theorem d_Groups_needsNote_25 : decode b_Groups_needsNote 25 = .ok (.if_icmp .eq 21, 3) := by decide +kernel
theorem d_Groups_needsNote_28 : decode b_Groups_needsNote 28 = .ok (.iload 4, 2) := by decide +kernel
theorem d_Groups_needsNote_30 : decode b_Groups_needsNote 30 = .ok (.iload_n 3, 1) := by decide +kernel
theorem d_Groups_needsNote_31 : decode b_Groups_needsNote 31 = .ok (.ifCond .le 7, 3) := by decide +kernel
theorem d_Groups_needsNote_34 : decode b_Groups_needsNote 34 = .ok (.iconst 1, 1) := by decide +kernel
theorem d_Groups_needsNote_35 : decode b_Groups_needsNote 35 = .ok (.goto 4, 3) := by decide +kernel
theorem d_Groups_needsNote_38 : decode b_Groups_needsNote 38 = .ok (.iconst 0, 1) := by decide +kernel
theorem d_Groups_needsNote_39 : decode b_Groups_needsNote 39 = .ok (.if_icmp .eq 7, 3) := by decide +kernel
theorem d_Groups_needsNote_42 : decode b_Groups_needsNote 42 = .ok (.iconst 1, 1) := by decide +kernel
theorem d_Groups_needsNote_43 : decode b_Groups_needsNote 43 = .ok (.goto 4, 3) := by decide +kernel
theorem d_Groups_needsNote_46 : decode b_Groups_needsNote 46 = .ok (.iconst 0, 1) := by decide +kernel
theorem d_Groups_needsNote_47 : decode b_Groups_needsNote 47 = .ok (.ireturn, 1) := by decide +kernel
theorem d_Groups_tell_0 : decode b_Groups_tell 0 = .ok (.aload_n 0, 1) := by decide +kernel
theorem d_Groups_tell_1 : decode b_Groups_tell 1 = .ok (.getfield 31, 3) := by decide +kernel
theorem d_Groups_tell_4 : decode b_Groups_tell 4 = .ok (.invokevirtual 60, 3) := by decide +kernel
theorem d_Groups_tell_7 : decode b_Groups_tell 7 = .ok (.istore_n 3, 1) := by decide +kernel
theorem d_Groups_tell_8 : decode b_Groups_tell 8 = .ok (.aload_n 0, 1) := by decide +kernel
theorem d_Groups_tell_9 : decode b_Groups_tell 9 = .ok (.getfield 31, 3) := by decide +kernel
theorem d_Groups_tell_12 : decode b_Groups_tell 12 = .ok (.iload_n 3, 1) := by decide +kernel
theorem d_Groups_tell_13 : decode b_Groups_tell 13 = .ok (.iconst 0, 1) := by decide +kernel
theorem d_Groups_tell_14 : decode b_Groups_tell 14 = .ok (.iload_n 2, 1) := by decide +kernel
theorem d_Groups_tell_15 : decode b_Groups_tell 15 = .ok (.invokevirtual 63, 3) := by decide +kernel
theorem d_Groups_tell_18 : decode b_Groups_tell 18 = .ok (.aload_n 0, 1) := by decide +kernel
theorem d_Groups_tell_19 : decode b_Groups_tell 19 = .ok (.getfield 31, 3) := by decide +kernel
theorem d_Groups_tell_22 : decode b_Groups_tell 22 = .ok (.iload_n 3, 1) := by decide +kernel
theorem d_Groups_tell_23 : decode b_Groups_tell 23 = .ok (.iconst 1, 1) := by decide +kernel
theorem d_Groups_tell_24 : decode b_Groups_tell 24 = .ok (.aload_n 0, 1) := by decide +kernel
theorem d_Groups_tell_25 : decode b_Groups_tell 25 = .ok (.getfield 35, 3) := by decide +kernel
theorem d_Groups_tell_28 : decode b_Groups_tell 28 = .ok (.iload_n 1, 1) := by decide +kernel
theorem d_Groups_tell_29 : decode b_Groups_tell 29 = .ok (.invokevirtual 67, 3) := by decide +kernel
theorem d_Groups_tell_32 : decode b_Groups_tell 32 = .ok (.invokevirtual 63, 3) := by decide +kernel
theorem d_Groups_tell_35 : decode b_Groups_tell 35 = .ok (.aload_n 0, 1) := by decide +kernel
theorem d_Groups_tell_36 : decode b_Groups_tell 36 = .ok (.getfield 31, 3) := by decide +kernel
theorem d_Groups_tell_39 : decode b_Groups_tell 39 = .ok (.iload_n 3, 1) := by decide +kernel
theorem d_Groups_tell_40 : decode b_Groups_tell 40 = .ok (.iconst 2, 1) := by decide +kernel
theorem d_Groups_tell_41 : decode b_Groups_tell 41 = .ok (.aload_n 0, 1) := by decide +kernel
theorem d_Groups_tell_42 : decode b_Groups_tell 42 = .ok (.getfield 23, 3) := by decide +kernel
theorem d_Groups_tell_45 : decode b_Groups_tell 45 = .ok (.iload_n 1, 1) := by decide +kernel
theorem d_Groups_tell_46 : decode b_Groups_tell 46 = .ok (.aaload, 1) := by decide +kernel
theorem d_Groups_tell_47 : decode b_Groups_tell 47 = .ok (.iload_n 2, 1) := by decide +kernel
theorem d_Groups_tell_48 : decode b_Groups_tell 48 = .ok (.iaload, 1) := by decide +kernel
theorem d_Groups_tell_49 : decode b_Groups_tell 49 = .ok (.ifCond .le 7, 3) := by decide +kernel
theorem d_Groups_tell_52 : decode b_Groups_tell 52 = .ok (.iconst 1, 1) := by decide +kernel
theorem d_Groups_tell_53 : decode b_Groups_tell 53 = .ok (.goto 4, 3) := by decide +kernel
theorem d_Groups_tell_56 : decode b_Groups_tell 56 = .ok (.iconst 0, 1) := by decide +kernel
theorem d_Groups_tell_57 : decode b_Groups_tell 57 = .ok (.invokevirtual 63, 3) := by decide +kernel
theorem d_Groups_tell_60 : decode b_Groups_tell 60 = .ok (.aload_n 0, 1) := by decide +kernel
theorem d_Groups_tell_61 : decode b_Groups_tell 61 = .ok (.getfield 18, 3) := by decide +kernel
theorem d_Groups_tell_64 : decode b_Groups_tell 64 = .ok (.iload_n 2, 1) := by decide +kernel
theorem d_Groups_tell_65 : decode b_Groups_tell 65 = .ok (.dup2, 1) := by decide +kernel
theorem d_Groups_tell_66 : decode b_Groups_tell 66 = .ok (.iaload, 1) := by decide +kernel
theorem d_Groups_tell_67 : decode b_Groups_tell 67 = .ok (.iconst 1, 1) := by decide +kernel
theorem d_Groups_tell_68 : decode b_Groups_tell 68 = .ok (.iadd, 1) := by decide +kernel
theorem d_Groups_tell_69 : decode b_Groups_tell 69 = .ok (.iastore, 1) := by decide +kernel
theorem d_Groups_tell_70 : decode b_Groups_tell 70 = .ok (.return_, 1) := by decide +kernel
