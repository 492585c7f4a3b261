/-! Decode rows by program. -/
theorem d_Data_init_0 : decode b_Data_init 0 = .ok (.aload_n 0, 1) := by decide +kernel
theorem d_Data_init_1 : decode b_Data_init 1 = .ok (.invokespecial 3, 3) := by decide +kernel
theorem d_Data_init_4 : decode b_Data_init 4 = .ok (.aload_n 0, 1) := by decide +kernel
theorem d_Data_init_5 : decode b_Data_init 5 = .ok (.new 9, 3) := by decide +kernel
theorem d_Data_init_8 : decode b_Data_init 8 = .ok (.dup, 1) := by decide +kernel
theorem d_Data_init_9 : decode b_Data_init 9 = .ok (.iconst 2, 1) := by decide +kernel
theorem d_Data_init_10 : decode b_Data_init 10 = .ok (.invokespecial 11, 3) := by decide +kernel
theorem d_Data_init_13 : decode b_Data_init 13 = .ok (.putfield 14, 3) := by decide +kernel
theorem d_Data_init_16 : decode b_Data_init 16 = .ok (.aload_n 0, 1) := by decide +kernel
theorem d_Data_init_17 : decode b_Data_init 17 = .ok (.new 9, 3) := by decide +kernel
theorem d_Data_init_20 : decode b_Data_init 20 = .ok (.dup, 1) := by decide +kernel
theorem d_Data_init_21 : decode b_Data_init 21 = .ok (.iconst 5, 1) := by decide +kernel
theorem d_Data_init_22 : decode b_Data_init 22 = .ok (.invokespecial 11, 3) := by decide +kernel
theorem d_Data_init_25 : decode b_Data_init 25 = .ok (.putfield 20, 3) := by decide +kernel
theorem d_Data_init_28 : decode b_Data_init 28 = .ok (.aload_n 0, 1) := by decide +kernel
theorem d_Data_init_29 : decode b_Data_init 29 = .ok (.aload_n 1, 1) := by decide +kernel
theorem d_Data_init_30 : decode b_Data_init 30 = .ok (.putfield 23, 3) := by decide +kernel
theorem d_Data_init_33 : decode b_Data_init 33 = .ok (.aload_n 0, 1) := by decide +kernel
theorem d_Data_init_34 : decode b_Data_init 34 = .ok (.aload_n 2, 1) := by decide +kernel
theorem d_Data_init_35 : decode b_Data_init 35 = .ok (.putfield 27, 3) := by decide +kernel
theorem d_Data_init_38 : decode b_Data_init 38 = .ok (.aload_n 0, 1) := by decide +kernel
theorem d_Data_init_39 : decode b_Data_init 39 = .ok (.aload_n 3, 1) := by decide +kernel
theorem d_Data_init_40 : decode b_Data_init 40 = .ok (.putfield 31, 3) := by decide +kernel
theorem d_Data_init_43 : decode b_Data_init 43 = .ok (.return_, 1) := by decide +kernel
theorem d_Data_onTheWay_0 : decode b_Data_onTheWay 0 = .ok (.aload_n 0, 1) := by decide +kernel
theorem d_Data_onTheWay_1 : decode b_Data_onTheWay 1 = .ok (.getfield 20, 3) := by decide +kernel
theorem d_Data_onTheWay_4 : decode b_Data_onTheWay 4 = .ok (.invokevirtual 35, 3) := by decide +kernel
theorem d_Data_onTheWay_7 : decode b_Data_onTheWay 7 = .ok (.ireturn, 1) := by decide +kernel
theorem d_Data_packetsSoFar_0 : decode b_Data_packetsSoFar 0 = .ok (.aload_n 0, 1) := by decide +kernel
theorem d_Data_packetsSoFar_1 : decode b_Data_packetsSoFar 1 = .ok (.getfield 14, 3) := by decide +kernel
theorem d_Data_packetsSoFar_4 : decode b_Data_packetsSoFar 4 = .ok (.invokevirtual 35, 3) := by decide +kernel
theorem d_Data_packetsSoFar_7 : decode b_Data_packetsSoFar 7 = .ok (.ireturn, 1) := by decide +kernel
theorem d_Data_copiesDelivered_0 : decode b_Data_copiesDelivered 0 = .ok (.aload_n 0, 1) := by decide +kernel
theorem d_Data_copiesDelivered_1 : decode b_Data_copiesDelivered 1 = .ok (.getfield 39, 3) := by decide +kernel
theorem d_Data_copiesDelivered_4 : decode b_Data_copiesDelivered 4 = .ok (.ireturn, 1) := by decide +kernel
theorem d_Data_copiesExpired_0 : decode b_Data_copiesExpired 0 = .ok (.aload_n 0, 1) := by decide +kernel
theorem d_Data_copiesExpired_1 : decode b_Data_copiesExpired 1 = .ok (.getfield 43, 3) := by decide +kernel
theorem d_Data_copiesExpired_4 : decode b_Data_copiesExpired 4 = .ok (.ireturn, 1) := by decide +kernel
theorem d_Data_bitsLost_0 : decode b_Data_bitsLost 0 = .ok (.aload_n 0, 1) := by decide +kernel
theorem d_Data_bitsLost_1 : decode b_Data_bitsLost 1 = .ok (.getfield 46, 3) := by decide +kernel
theorem d_Data_bitsLost_4 : decode b_Data_bitsLost 4 = .ok (.ireturn, 1) := by decide +kernel
theorem d_Data_bitsDelivered_0 : decode b_Data_bitsDelivered 0 = .ok (.aload_n 0, 1) := by decide +kernel
theorem d_Data_bitsDelivered_1 : decode b_Data_bitsDelivered 1 = .ok (.getfield 14, 3) := by decide +kernel
theorem d_Data_bitsDelivered_4 : decode b_Data_bitsDelivered 4 = .ok (.iload_n 1, 1) := by decide +kernel
theorem d_Data_bitsDelivered_5 : decode b_Data_bitsDelivered 5 = .ok (.iconst 1, 1) := by decide +kernel
theorem d_Data_bitsDelivered_6 : decode b_Data_bitsDelivered 6 = .ok (.isub, 1) := by decide +kernel
theorem d_Data_bitsDelivered_7 : decode b_Data_bitsDelivered 7 = .ok (.iconst 0, 1) := by decide +kernel
theorem d_Data_bitsDelivered_8 : decode b_Data_bitsDelivered 8 = .ok (.invokevirtual 49, 3) := by decide +kernel
theorem d_Data_bitsDelivered_11 : decode b_Data_bitsDelivered 11 = .ok (.ireturn, 1) := by decide +kernel
theorem d_Data_linksCrossed_0 : decode b_Data_linksCrossed 0 = .ok (.aload_n 0, 1) := by decide +kernel
theorem d_Data_linksCrossed_1 : decode b_Data_linksCrossed 1 = .ok (.getfield 14, 3) := by decide +kernel
theorem d_Data_linksCrossed_4 : decode b_Data_linksCrossed 4 = .ok (.iload_n 1, 1) := by decide +kernel
theorem d_Data_linksCrossed_5 : decode b_Data_linksCrossed 5 = .ok (.iconst 1, 1) := by decide +kernel
theorem d_Data_linksCrossed_6 : decode b_Data_linksCrossed 6 = .ok (.isub, 1) := by decide +kernel
theorem d_Data_linksCrossed_7 : decode b_Data_linksCrossed 7 = .ok (.iconst 1, 1) := by decide +kernel
theorem d_Data_linksCrossed_8 : decode b_Data_linksCrossed 8 = .ok (.invokevirtual 49, 3) := by decide +kernel
theorem d_Data_linksCrossed_11 : decode b_Data_linksCrossed 11 = .ok (.ireturn, 1) := by decide +kernel
theorem d_Data_hasRoomFor_0 : decode b_Data_hasRoomFor 0 = .ok (.aload_n 0, 1) := by decide +kernel
theorem d_Data_hasRoomFor_1 : decode b_Data_hasRoomFor 1 = .ok (.getfield 14, 3) := by decide +kernel
theorem d_Data_hasRoomFor_4 : decode b_Data_hasRoomFor 4 = .ok (.invokevirtual 35, 3) := by decide +kernel
theorem d_Data_hasRoomFor_7 : decode b_Data_hasRoomFor 7 = .ok (.sipush 900, 3) := by decide +kernel
theorem d_Data_hasRoomFor_10 : decode b_Data_hasRoomFor 10 = .ok (.if_icmp .ge 27, 3) := by decide +kernel
theorem d_Data_hasRoomFor_13 : decode b_Data_hasRoomFor 13 = .ok (.aload_n 0, 1) := by decide +kernel
theorem d_Data_hasRoomFor_14 : decode b_Data_hasRoomFor 14 = .ok (.getfield 20, 3) := by decide +kernel
theorem d_Data_hasRoomFor_17 : decode b_Data_hasRoomFor 17 = .ok (.invokevirtual 35, 3) := by decide +kernel
theorem d_Data_hasRoomFor_20 : decode b_Data_hasRoomFor 20 = .ok (.aload_n 0, 1) := by decide +kernel
theorem d_Data_hasRoomFor_21 : decode b_Data_hasRoomFor 21 = .ok (.iload_n 1, 1) := by decide +kernel
theorem d_Data_hasRoomFor_22 : decode b_Data_hasRoomFor 22 = .ok (.iload_n 2, 1) := by decide +kernel
theorem d_Data_hasRoomFor_23 : decode b_Data_hasRoomFor 23 = .ok (.invokevirtual 53, 3) := by decide +kernel
theorem d_Data_hasRoomFor_26 : decode b_Data_hasRoomFor 26 = .ok (.iadd, 1) := by decide +kernel
theorem d_Data_hasRoomFor_27 : decode b_Data_hasRoomFor 27 = .ok (.sipush 4000, 3) := by decide +kernel
theorem d_Data_hasRoomFor_30 : decode b_Data_hasRoomFor 30 = .ok (.if_icmp .gt 7, 3) := by decide +kernel
theorem d_Data_hasRoomFor_33 : decode b_Data_hasRoomFor 33 = .ok (.iconst 1, 1) := by decide +kernel
theorem d_Data_hasRoomFor_34 : decode b_Data_hasRoomFor 34 = .ok (.goto 4, 3) := by decide +kernel
theorem d_Data_hasRoomFor_37 : decode b_Data_hasRoomFor 37 = .ok (.iconst 0, 1) := by decide +kernel
theorem d_Data_hasRoomFor_38 : decode b_Data_hasRoomFor 38 = .ok (.ireturn, 1) := by decide +kernel
theorem d_Data_start_0 : decode b_Data_start 0 = .ok (.aload_n 0, 1) := by decide +kernel
theorem d_Data_start_1 : decode b_Data_start 1 = .ok (.getfield 14, 3) := by decide +kernel
theorem d_Data_start_4 : decode b_Data_start 4 = .ok (.invokevirtual 56, 3) := by decide +kernel
theorem d_Data_start_7 : decode b_Data_start 7 = .ok (.iconst 1, 1) := by decide +kernel
theorem d_Data_start_8 : decode b_Data_start 8 = .ok (.iadd, 1) := by decide +kernel
theorem d_Data_start_9 : decode b_Data_start 9 = .ok (.istore_n 3, 1) := by decide +kernel
theorem d_Data_start_10 : decode b_Data_start 10 = .ok (.aload_n 0, 1) := by decide +kernel
theorem d_Data_start_11 : decode b_Data_start 11 = .ok (.iload_n 3, 1) := by decide +kernel
theorem d_Data_start_12 : decode b_Data_start 12 = .ok (.iload_n 1, 1) := by decide +kernel
theorem d_Data_start_13 : decode b_Data_start 13 = .ok (.iload_n 2, 1) := by decide +kernel
theorem d_Data_start_14 : decode b_Data_start 14 = .ok (.iconst 0, 1) := by decide +kernel
theorem d_Data_start_15 : decode b_Data_start 15 = .ok (.invokevirtual 59, 3) := by decide +kernel
theorem d_Data_start_18 : decode b_Data_start 18 = .ok (.iload_n 3, 1) := by decide +kernel
theorem d_Data_start_19 : decode b_Data_start 19 = .ok (.ireturn, 1) := by decide +kernel
theorem d_Data_deliverOldest_0 : decode b_Data_deliverOldest 0 = .ok (.aload_n 0, 1) := by decide +kernel
theorem d_Data_deliverOldest_1 : decode b_Data_deliverOldest 1 = .ok (.getfield 20, 3) := by decide +kernel
theorem d_Data_deliverOldest_4 : decode b_Data_deliverOldest 4 = .ok (.iconst 0, 1) := by decide +kernel
theorem d_Data_deliverOldest_5 : decode b_Data_deliverOldest 5 = .ok (.iconst 0, 1) := by decide +kernel
theorem d_Data_deliverOldest_6 : decode b_Data_deliverOldest 6 = .ok (.invokevirtual 49, 3) := by decide +kernel
theorem d_Data_deliverOldest_9 : decode b_Data_deliverOldest 9 = .ok (.istore_n 1, 1) := by decide +kernel
theorem d_Data_deliverOldest_10 : decode b_Data_deliverOldest 10 = .ok (.aload_n 0, 1) := by decide +kernel
theorem d_Data_deliverOldest_11 : decode b_Data_deliverOldest 11 = .ok (.getfield 20, 3) := by decide +kernel
theorem d_Data_deliverOldest_14 : decode b_Data_deliverOldest 14 = .ok (.iconst 0, 1) := by decide +kernel
theorem d_Data_deliverOldest_15 : decode b_Data_deliverOldest 15 = .ok (.iconst 1, 1) := by decide +kernel
theorem d_Data_deliverOldest_16 : decode b_Data_deliverOldest 16 = .ok (.invokevirtual 49, 3) := by decide +kernel
theorem d_Data_deliverOldest_19 : decode b_Data_deliverOldest 19 = .ok (.istore_n 2, 1) := by decide +kernel
theorem d_Data_deliverOldest_20 : decode b_Data_deliverOldest 20 = .ok (.aload_n 0, 1) := by decide +kernel
theorem d_Data_deliverOldest_21 : decode b_Data_deliverOldest 21 = .ok (.getfield 20, 3) := by decide +kernel
theorem d_Data_deliverOldest_24 : decode b_Data_deliverOldest 24 = .ok (.iconst 0, 1) := by decide +kernel
theorem d_Data_deliverOldest_25 : decode b_Data_deliverOldest 25 = .ok (.iconst 2, 1) := by decide +kernel
theorem d_Data_deliverOldest_26 : decode b_Data_deliverOldest 26 = .ok (.invokevirtual 49, 3) := by decide +kernel
theorem d_Data_deliverOldest_29 : decode b_Data_deliverOldest 29 = .ok (.istore_n 3, 1) := by decide +kernel
theorem d_Data_deliverOldest_30 : decode b_Data_deliverOldest 30 = .ok (.aload_n 0, 1) := by decide +kernel
theorem d_Data_deliverOldest_31 : decode b_Data_deliverOldest 31 = .ok (.getfield 20, 3) := by decide +kernel
theorem d_Data_deliverOldest_34 : decode b_Data_deliverOldest 34 = .ok (.iconst 0, 1) := by decide +kernel
theorem d_Data_deliverOldest_35 : decode b_Data_deliverOldest 35 = .ok (.iconst 3, 1) := by decide +kernel
theorem d_Data_deliverOldest_36 : decode b_Data_deliverOldest 36 = .ok (.invokevirtual 49, 3) := by decide +kernel
theorem d_Data_deliverOldest_39 : decode b_Data_deliverOldest 39 = .ok (.istore 4, 2) := by decide +kernel
theorem d_Data_deliverOldest_41 : decode b_Data_deliverOldest 41 = .ok (.aload_n 0, 1) := by decide +kernel
theorem d_Data_deliverOldest_42 : decode b_Data_deliverOldest 42 = .ok (.getfield 20, 3) := by decide +kernel
theorem d_Data_deliverOldest_45 : decode b_Data_deliverOldest 45 = .ok (.iconst 0, 1) := by decide +kernel
theorem d_Data_deliverOldest_46 : decode b_Data_deliverOldest 46 = .ok (.iconst 4, 1) := by decide +kernel
theorem d_Data_deliverOldest_47 : decode b_Data_deliverOldest 47 = .ok (.invokevirtual 49, 3) := by decide +kernel
theorem d_Data_deliverOldest_50 : decode b_Data_deliverOldest 50 = .ok (.istore 5, 2) := by decide +kernel
theorem d_Data_deliverOldest_52 : decode b_Data_deliverOldest 52 = .ok (.aload_n 0, 1) := by decide +kernel
theorem d_Data_deliverOldest_53 : decode b_Data_deliverOldest 53 = .ok (.getfield 20, 3) := by decide +kernel
theorem d_Data_deliverOldest_56 : decode b_Data_deliverOldest 56 = .ok (.invokevirtual 63, 3) := by decide +kernel
theorem d_Data_deliverOldest_59 : decode b_Data_deliverOldest 59 = .ok (.aload_n 0, 1) := by decide +kernel
theorem d_Data_deliverOldest_60 : decode b_Data_deliverOldest 60 = .ok (.getfield 23, 3) := by decide +kernel
theorem d_Data_deliverOldest_63 : decode b_Data_deliverOldest 63 = .ok (.iload_n 2, 1) := by decide +kernel
theorem d_Data_deliverOldest_64 : decode b_Data_deliverOldest 64 = .ok (.iload_n 3, 1) := by decide +kernel
theorem d_Data_deliverOldest_65 : decode b_Data_deliverOldest 65 = .ok (.invokevirtual 66, 3) := by decide +kernel
theorem d_Data_deliverOldest_68 : decode b_Data_deliverOldest 68 = .ok (.ifCond .eq 16, 3) := by decide +kernel
theorem d_Data_deliverOldest_71 : decode b_Data_deliverOldest 71 = .ok (.aload_n 0, 1) := by decide +kernel
theorem d_Data_deliverOldest_72 : decode b_Data_deliverOldest 72 = .ok (.iload_n 1, 1) := by decide +kernel
theorem d_Data_deliverOldest_73 : decode b_Data_deliverOldest 73 = .ok (.iload_n 3, 1) := by decide +kernel
theorem d_Data_deliverOldest_74 : decode b_Data_deliverOldest 74 = .ok (.iload 4, 2) := by decide +kernel
theorem d_Data_deliverOldest_76 : decode b_Data_deliverOldest 76 = .ok (.iload 5, 2) := by decide +kernel
theorem d_Data_deliverOldest_78 : decode b_Data_deliverOldest 78 = .ok (.invokevirtual 59, 3) := by decide +kernel
theorem d_Data_deliverOldest_81 : decode b_Data_deliverOldest 81 = .ok (.goto 17, 3) := by decide +kernel
theorem d_Data_deliverOldest_84 : decode b_Data_deliverOldest 84 = .ok (.aload_n 0, 1) := by decide +kernel
theorem d_Data_deliverOldest_85 : decode b_Data_deliverOldest 85 = .ok (.dup, 1) := by decide +kernel
theorem d_Data_deliverOldest_86 : decode b_Data_deliverOldest 86 = .ok (.getfield 46, 3) := by decide +kernel
theorem d_Data_deliverOldest_89 : decode b_Data_deliverOldest 89 = .ok (.iload 4, 2) := by decide +kernel
theorem d_Data_deliverOldest_91 : decode b_Data_deliverOldest 91 = .ok (.invokestatic 72, 3) := by decide +kernel
theorem d_Data_deliverOldest_94 : decode b_Data_deliverOldest 94 = .ok (.iadd, 1) := by decide +kernel
theorem d_Data_deliverOldest_95 : decode b_Data_deliverOldest 95 = .ok (.putfield 46, 3) := by decide +kernel
theorem d_Data_deliverOldest_98 : decode b_Data_deliverOldest 98 = .ok (.return_, 1) := by decide +kernel
theorem d_Data_loseOldest_0 : decode b_Data_loseOldest 0 = .ok (.aload_n 0, 1) := by decide +kernel
theorem d_Data_loseOldest_1 : decode b_Data_loseOldest 1 = .ok (.getfield 20, 3) := by decide +kernel
theorem d_Data_loseOldest_4 : decode b_Data_loseOldest 4 = .ok (.invokevirtual 35, 3) := by decide +kernel
theorem d_Data_loseOldest_7 : decode b_Data_loseOldest 7 = .ok (.ifCond .ne 5, 3) := by decide +kernel
theorem d_Data_loseOldest_10 : decode b_Data_loseOldest 10 = .ok (.iconst 0, 1) := by decide +kernel
theorem d_Data_loseOldest_11 : decode b_Data_loseOldest 11 = .ok (.ireturn, 1) := by decide +kernel
theorem d_Data_loseOldest_12 : decode b_Data_loseOldest 12 = .ok (.aload_n 0, 1) := by decide +kernel
theorem d_Data_loseOldest_13 : decode b_Data_loseOldest 13 = .ok (.dup, 1) := by decide +kernel
theorem d_Data_loseOldest_14 : decode b_Data_loseOldest 14 = .ok (.getfield 46, 3) := by decide +kernel
theorem d_Data_loseOldest_17 : decode b_Data_loseOldest 17 = .ok (.aload_n 0, 1) := by decide +kernel
theorem d_Data_loseOldest_18 : decode b_Data_loseOldest 18 = .ok (.getfield 20, 3) := by decide +kernel
theorem d_Data_loseOldest_21 : decode b_Data_loseOldest 21 = .ok (.iconst 0, 1) := by decide +kernel
theorem d_Data_loseOldest_22 : decode b_Data_loseOldest 22 = .ok (.iconst 3, 1) := by decide +kernel
theorem d_Data_loseOldest_23 : decode b_Data_loseOldest 23 = .ok (.invokevirtual 49, 3) := by decide +kernel
theorem d_Data_loseOldest_26 : decode b_Data_loseOldest 26 = .ok (.invokestatic 72, 3) := by decide +kernel
theorem d_Data_loseOldest_29 : decode b_Data_loseOldest 29 = .ok (.iadd, 1) := by decide +kernel
theorem d_Data_loseOldest_30 : decode b_Data_loseOldest 30 = .ok (.putfield 46, 3) := by decide +kernel
theorem d_Data_loseOldest_33 : decode b_Data_loseOldest 33 = .ok (.aload_n 0, 1) := by decide +kernel
theorem d_Data_loseOldest_34 : decode b_Data_loseOldest 34 = .ok (.getfield 20, 3) := by decide +kernel
theorem d_Data_loseOldest_37 : decode b_Data_loseOldest 37 = .ok (.invokevirtual 63, 3) := by decide +kernel
theorem d_Data_loseOldest_40 : decode b_Data_loseOldest 40 = .ok (.iconst 1, 1) := by decide +kernel
theorem d_Data_loseOldest_41 : decode b_Data_loseOldest 41 = .ok (.ireturn, 1) := by decide +kernel
theorem d_Data_partsOf_0 : decode b_Data_partsOf 0 = .ok (.iload_n 2, 1) := by decide +kernel
theorem d_Data_partsOf_1 : decode b_Data_partsOf 1 = .ok (.aload_n 0, 1) := by decide +kernel
theorem d_Data_partsOf_2 : decode b_Data_partsOf 2 = .ok (.getfield 27, 3) := by decide +kernel
theorem d_Data_partsOf_5 : decode b_Data_partsOf 5 = .ok (.iload_n 1, 1) := by decide +kernel
theorem d_Data_partsOf_6 : decode b_Data_partsOf 6 = .ok (.invokevirtual 78, 3) := by decide +kernel
theorem d_Data_partsOf_9 : decode b_Data_partsOf 9 = .ok (.iconst (-1), 1) := by decide +kernel
theorem d_Data_partsOf_10 : decode b_Data_partsOf 10 = .ok (.ixor, 1) := by decide +kernel
theorem d_Data_partsOf_11 : decode b_Data_partsOf 11 = .ok (.iand, 1) := by decide +kernel
theorem d_Data_partsOf_12 : decode b_Data_partsOf 12 = .ok (.istore_n 3, 1) := by decide +kernel
theorem d_Data_partsOf_13 : decode b_Data_partsOf 13 = .ok (.aload_n 0, 1) := by decide +kernel
theorem d_Data_partsOf_14 : decode b_Data_partsOf 14 = .ok (.getfield 31, 3) := by decide +kernel
theorem d_Data_partsOf_17 : decode b_Data_partsOf 17 = .ok (.iload_n 1, 1) := by decide +kernel
theorem d_Data_partsOf_18 : decode b_Data_partsOf 18 = .ok (.invokevirtual 83, 3) := by decide +kernel
theorem d_Data_partsOf_21 : decode b_Data_partsOf 21 = .ok (.astore 4, 2) := by decide +kernel
theorem d_Data_partsOf_23 : decode b_Data_partsOf 23 = .ok (.iconst 0, 1) := by decide +kernel
theorem d_Data_partsOf_24 : decode b_Data_partsOf 24 = .ok (.istore 5, 2) := by decide +kernel
theorem d_Data_partsOf_26 : decode b_Data_partsOf 26 = .ok (.iconst 0, 1) := by decide +kernel
theorem d_Data_partsOf_27 : decode b_Data_partsOf 27 = .ok (.istore 6, 2) := by decide +kernel
theorem d_Data_partsOf_29 : decode b_Data_partsOf 29 = .ok (.iload 6, 2) := by decide +kernel
theorem d_Data_partsOf_31 : decode b_Data_partsOf 31 = .ok (.bipush 12, 2) := by decide +kernel
theorem d_Data_partsOf_33 : decode b_Data_partsOf 33 = .ok (.if_icmp .ge 22, 3) := by decide +kernel
theorem d_Data_partsOf_36 : decode b_Data_partsOf 36 = .ok (.iload_n 3, 1) := by decide +kernel
theorem d_Data_partsOf_37 : decode b_Data_partsOf 37 = .ok (.aload 4, 2) := by decide +kernel
theorem d_Data_partsOf_39 : decode b_Data_partsOf 39 = .ok (.iload 6, 2) := by decide +kernel
theorem d_Data_partsOf_41 : decode b_Data_partsOf 41 = .ok (.iaload, 1) := by decide +kernel
theorem d_Data_partsOf_42 : decode b_Data_partsOf 42 = .ok (.iand, 1) := by decide +kernel
theorem d_Data_partsOf_43 : decode b_Data_partsOf 43 = .ok (.ifCond .eq 6, 3) := by decide +kernel
theorem d_Data_partsOf_46 : decode b_Data_partsOf 46 = .ok (.iinc 5 1, 3) := by decide +kernel
theorem d_Data_partsOf_49 : decode b_Data_partsOf 49 = .ok (.iinc 6 1, 3) := by decide +kernel
theorem d_Data_partsOf_52 : decode b_Data_partsOf 52 = .ok (.goto (-23), 3) := by decide +kernel
theorem d_Data_partsOf_55 : decode b_Data_partsOf 55 = .ok (.iload 5, 2) := by decide +kernel
theorem d_Data_partsOf_57 : decode b_Data_partsOf 57 = .ok (.ireturn, 1) := by decide +kernel
theorem d_Data_handle_0 : decode b_Data_handle 0 = .ok (.iload_n 3, 1) := by decide +kernel
theorem d_Data_handle_1 : decode b_Data_handle 1 = .ok (.aload_n 0, 1) := by decide +kernel
theorem d_Data_handle_2 : decode b_Data_handle 2 = .ok (.getfield 27, 3) := by decide +kernel
theorem d_Data_handle_5 : decode b_Data_handle 5 = .ok (.iload_n 2, 1) := by decide +kernel
theorem d_Data_handle_6 : decode b_Data_handle 6 = .ok (.invokevirtual 78, 3) := by decide +kernel
theorem d_Data_handle_9 : decode b_Data_handle 9 = .ok (.iand, 1) := by decide +kernel
theorem d_Data_handle_10 : decode b_Data_handle 10 = .ok (.istore 5, 2) := by decide +kernel
theorem d_Data_handle_12 : decode b_Data_handle 12 = .ok (.iload 5, 2) := by decide +kernel
theorem d_Data_handle_14 : decode b_Data_handle 14 = .ok (.ifCond .eq 38, 3) := by decide +kernel
theorem d_Data_handle_17 : decode b_Data_handle 17 = .ok (.aload_n 0, 1) := by decide +kernel
theorem d_Data_handle_18 : decode b_Data_handle 18 = .ok (.getfield 14, 3) := by decide +kernel
theorem d_Data_handle_21 : decode b_Data_handle 21 = .ok (.iload_n 1, 1) := by decide +kernel
theorem d_Data_handle_22 : decode b_Data_handle 22 = .ok (.iconst 1, 1) := by decide +kernel
theorem d_Data_handle_23 : decode b_Data_handle 23 = .ok (.isub, 1) := by decide +kernel
theorem d_Data_handle_24 : decode b_Data_handle 24 = .ok (.iconst 0, 1) := by decide +kernel
theorem d_Data_handle_25 : decode b_Data_handle 25 = .ok (.aload_n 0, 1) := by decide +kernel
theorem d_Data_handle_26 : decode b_Data_handle 26 = .ok (.getfield 14, 3) := by decide +kernel
theorem d_Data_handle_29 : decode b_Data_handle 29 = .ok (.iload_n 1, 1) := by decide +kernel
theorem d_Data_handle_30 : decode b_Data_handle 30 = .ok (.iconst 1, 1) := by decide +kernel
theorem d_Data_handle_31 : decode b_Data_handle 31 = .ok (.isub, 1) := by decide +kernel
theorem d_Data_handle_32 : decode b_Data_handle 32 = .ok (.iconst 0, 1) := by decide +kernel
theorem d_Data_handle_33 : decode b_Data_handle 33 = .ok (.invokevirtual 49, 3) := by decide +kernel
theorem d_Data_handle_36 : decode b_Data_handle 36 = .ok (.iload 5, 2) := by decide +kernel
theorem d_Data_handle_38 : decode b_Data_handle 38 = .ok (.ior, 1) := by decide +kernel
theorem d_Data_handle_39 : decode b_Data_handle 39 = .ok (.invokevirtual 89, 3) := by decide +kernel
theorem d_Data_handle_42 : decode b_Data_handle 42 = .ok (.aload_n 0, 1) := by decide +kernel
theorem d_Data_handle_43 : decode b_Data_handle 43 = .ok (.dup, 1) := by decide +kernel
theorem d_Data_handle_44 : decode b_Data_handle 44 = .ok (.getfield 39, 3) := by decide +kernel
theorem d_Data_handle_47 : decode b_Data_handle 47 = .ok (.iconst 1, 1) := by decide +kernel
theorem d_Data_handle_48 : decode b_Data_handle 48 = .ok (.iadd, 1) := by decide +kernel
theorem d_Data_handle_49 : decode b_Data_handle 49 = .ok (.putfield 39, 3) := by decide +kernel
theorem d_Data_handle_52 : decode b_Data_handle 52 = .ok (.iload_n 3, 1) := by decide +kernel
theorem d_Data_handle_53 : decode b_Data_handle 53 = .ok (.iload 5, 2) := by decide +kernel
theorem d_Data_handle_55 : decode b_Data_handle 55 = .ok (.iconst (-1), 1) := by decide +kernel
theorem d_Data_handle_56 : decode b_Data_handle 56 = .ok (.ixor, 1) := by decide +kernel
theorem d_Data_handle_57 : decode b_Data_handle 57 = .ok (.iand, 1) := by decide +kernel
theorem d_Data_handle_58 : decode b_Data_handle 58 = .ok (.istore 6, 2) := by decide +kernel
theorem d_Data_handle_60 : decode b_Data_handle 60 = .ok (.aload_n 0, 1) := by decide +kernel
theorem d_Data_handle_61 : decode b_Data_handle 61 = .ok (.getfield 31, 3) := by decide +kernel
theorem d_Data_handle_64 : decode b_Data_handle 64 = .ok (.iload_n 2, 1) := by decide +kernel
theorem d_Data_handle_65 : decode b_Data_handle 65 = .ok (.invokevirtual 83, 3) := by decide +kernel
theorem d_Data_handle_68 : decode b_Data_handle 68 = .ok (.astore 7, 2) := by decide +kernel
theorem d_Data_handle_70 : decode b_Data_handle 70 = .ok (.iconst 0, 1) := by decide +kernel
theorem d_Data_handle_71 : decode b_Data_handle 71 = .ok (.istore 8, 2) := by decide +kernel
theorem d_Data_handle_73 : decode b_Data_handle 73 = .ok (.iload 8, 2) := by decide +kernel
theorem d_Data_handle_75 : decode b_Data_handle 75 = .ok (.bipush 12, 2) := by decide +kernel
theorem d_Data_handle_77 : decode b_Data_handle 77 = .ok (.if_icmp .ge 45, 3) := by decide +kernel
theorem d_Data_handle_80 : decode b_Data_handle 80 = .ok (.iload 6, 2) := by decide +kernel
theorem d_Data_handle_82 : decode b_Data_handle 82 = .ok (.aload 7, 2) := by decide +kernel
theorem d_Data_handle_84 : decode b_Data_handle 84 = .ok (.iload 8, 2) := by decide +kernel
theorem d_Data_handle_86 : decode b_Data_handle 86 = .ok (.iaload, 1) := by decide +kernel
theorem d_Data_handle_87 : decode b_Data_handle 87 = .ok (.iand, 1) := by decide +kernel
theorem d_Data_handle_88 : decode b_Data_handle 88 = .ok (.istore 9, 2) := by decide +kernel
theorem d_Data_handle_90 : decode b_Data_handle 90 = .ok (.iload 9, 2) := by decide +kernel
theorem d_Data_handle_92 : decode b_Data_handle 92 = .ok (.ifCond .eq 24, 3) := by decide +kernel
theorem d_Data_handle_95 : decode b_Data_handle 95 = .ok (.iload 6, 2) := by decide +kernel
theorem d_Data_handle_97 : decode b_Data_handle 97 = .ok (.iload 9, 2) := by decide +kernel
theorem d_Data_handle_99 : decode b_Data_handle 99 = .ok (.iconst (-1), 1) := by decide +kernel
theorem d_Data_handle_100 : decode b_Data_handle 100 = .ok (.ixor, 1) := by decide +kernel
theorem d_Data_handle_101 : decode b_Data_handle 101 = .ok (.iand, 1) := by decide +kernel
theorem d_Data_handle_102 : decode b_Data_handle 102 = .ok (.istore 6, 2) := by decide +kernel
theorem d_Data_handle_104 : decode b_Data_handle 104 = .ok (.aload_n 0, 1) := by decide +kernel
theorem d_Data_handle_105 : decode b_Data_handle 105 = .ok (.iload_n 1, 1) := by decide +kernel
theorem d_Data_handle_106 : decode b_Data_handle 106 = .ok (.iload_n 2, 1) := by decide +kernel
theorem d_Data_handle_107 : decode b_Data_handle 107 = .ok (.iload 8, 2) := by decide +kernel
theorem d_Data_handle_109 : decode b_Data_handle 109 = .ok (.iload 9, 2) := by decide +kernel
theorem d_Data_handle_111 : decode b_Data_handle 111 = .ok (.iload 4, 2) := by decide +kernel
theorem d_Data_handle_113 : decode b_Data_handle 113 = .ok (.invokevirtual 93, 3) := by decide +kernel
theorem d_Data_handle_116 : decode b_Data_handle 116 = .ok (.iinc 8 1, 3) := by decide +kernel
theorem d_Data_handle_119 : decode b_Data_handle 119 = .ok (.goto (-46), 3) := by decide +kernel
theorem d_Data_handle_122 : decode b_Data_handle 122 = .ok (.aload_n 0, 1) := by decide +kernel
theorem d_Data_handle_123 : decode b_Data_handle 123 = .ok (.dup, 1) := by decide +kernel
theorem d_Data_handle_124 : decode b_Data_handle 124 = .ok (.getfield 46, 3) := by decide +kernel
theorem d_Data_handle_127 : decode b_Data_handle 127 = .ok (.iload 6, 2) := by decide +kernel
theorem d_Data_handle_129 : decode b_Data_handle 129 = .ok (.invokestatic 72, 3) := by decide +kernel
theorem d_Data_handle_132 : decode b_Data_handle 132 = .ok (.iadd, 1) := by decide +kernel
theorem d_Data_handle_133 : decode b_Data_handle 133 = .ok (.putfield 46, 3) := by decide +kernel
theorem d_Data_handle_136 : decode b_Data_handle 136 = .ok (.return_, 1) := by decide +kernel
theorem d_Data_sendOn_0 : decode b_Data_sendOn 0 = .ok (.iload 5, 2) := by decide +kernel
theorem d_Data_sendOn_2 : decode b_Data_sendOn 2 = .ok (.sipush 255, 3) := by decide +kernel
theorem d_Data_sendOn_5 : decode b_Data_sendOn 5 = .ok (.if_icmp .lt 14, 3) := by decide +kernel
theorem d_Data_sendOn_8 : decode b_Data_sendOn 8 = .ok (.aload_n 0, 1) := by decide +kernel
theorem d_Data_sendOn_9 : decode b_Data_sendOn 9 = .ok (.dup, 1) := by decide +kernel
theorem d_Data_sendOn_10 : decode b_Data_sendOn 10 = .ok (.getfield 43, 3) := by decide +kernel
theorem d_Data_sendOn_13 : decode b_Data_sendOn 13 = .ok (.iconst 1, 1) := by decide +kernel
theorem d_Data_sendOn_14 : decode b_Data_sendOn 14 = .ok (.iadd, 1) := by decide +kernel
theorem d_Data_sendOn_15 : decode b_Data_sendOn 15 = .ok (.putfield 43, 3) := by decide +kernel
theorem d_Data_sendOn_18 : decode b_Data_sendOn 18 = .ok (.return_, 1) := by decide +kernel
theorem d_Data_sendOn_19 : decode b_Data_sendOn 19 = .ok (.aload_n 0, 1) := by decide +kernel
theorem d_Data_sendOn_20 : decode b_Data_sendOn 20 = .ok (.getfield 14, 3) := by decide +kernel
theorem d_Data_sendOn_23 : decode b_Data_sendOn 23 = .ok (.iload_n 1, 1) := by decide +kernel
theorem d_Data_sendOn_24 : decode b_Data_sendOn 24 = .ok (.iconst 1, 1) := by decide +kernel
theorem d_Data_sendOn_25 : decode b_Data_sendOn 25 = .ok (.isub, 1) := by decide +kernel
theorem d_Data_sendOn_26 : decode b_Data_sendOn 26 = .ok (.iconst 1, 1) := by decide +kernel
theorem d_Data_sendOn_27 : decode b_Data_sendOn 27 = .ok (.aload_n 0, 1) := by decide +kernel
theorem d_Data_sendOn_28 : decode b_Data_sendOn 28 = .ok (.getfield 14, 3) := by decide +kernel
theorem d_Data_sendOn_31 : decode b_Data_sendOn 31 = .ok (.iload_n 1, 1) := by decide +kernel
theorem d_Data_sendOn_32 : decode b_Data_sendOn 32 = .ok (.iconst 1, 1) := by decide +kernel
theorem d_Data_sendOn_33 : decode b_Data_sendOn 33 = .ok (.isub, 1) := by decide +kernel
theorem d_Data_sendOn_34 : decode b_Data_sendOn 34 = .ok (.iconst 1, 1) := by decide +kernel
theorem d_Data_sendOn_35 : decode b_Data_sendOn 35 = .ok (.invokevirtual 49, 3) := by decide +kernel
theorem d_Data_sendOn_38 : decode b_Data_sendOn 38 = .ok (.iconst 1, 1) := by decide +kernel
theorem d_Data_sendOn_39 : decode b_Data_sendOn 39 = .ok (.iadd, 1) := by decide +kernel
theorem d_Data_sendOn_40 : decode b_Data_sendOn 40 = .ok (.invokevirtual 89, 3) := by decide +kernel
theorem d_Data_sendOn_43 : decode b_Data_sendOn 43 = .ok (.aload_n 0, 1) := by decide +kernel
theorem d_Data_sendOn_44 : decode b_Data_sendOn 44 = .ok (.getfield 20, 3) := by decide +kernel
theorem d_Data_sendOn_47 : decode b_Data_sendOn 47 = .ok (.invokevirtual 56, 3) := by decide +kernel
theorem d_Data_sendOn_50 : decode b_Data_sendOn 50 = .ok (.istore 6, 2) := by decide +kernel
theorem d_Data_sendOn_52 : decode b_Data_sendOn 52 = .ok (.aload_n 0, 1) := by decide +kernel
theorem d_Data_sendOn_53 : decode b_Data_sendOn 53 = .ok (.getfield 20, 3) := by decide +kernel
theorem d_Data_sendOn_56 : decode b_Data_sendOn 56 = .ok (.iload 6, 2) := by decide +kernel
theorem d_Data_sendOn_58 : decode b_Data_sendOn 58 = .ok (.iconst 0, 1) := by decide +kernel
theorem d_Data_sendOn_59 : decode b_Data_sendOn 59 = .ok (.iload_n 1, 1) := by decide +kernel
theorem d_Data_sendOn_60 : decode b_Data_sendOn 60 = .ok (.invokevirtual 89, 3) := by decide +kernel
theorem d_Data_sendOn_63 : decode b_Data_sendOn 63 = .ok (.aload_n 0, 1) := by decide +kernel
theorem d_Data_sendOn_64 : decode b_Data_sendOn 64 = .ok (.getfield 20, 3) := by decide +kernel
theorem d_Data_sendOn_67 : decode b_Data_sendOn 67 = .ok (.iload 6, 2) := by decide +kernel
theorem d_Data_sendOn_69 : decode b_Data_sendOn 69 = .ok (.iconst 1, 1) := by decide +kernel
theorem d_Data_sendOn_70 : decode b_Data_sendOn 70 = .ok (.iload_n 2, 1) := by decide +kernel
theorem d_Data_sendOn_71 : decode b_Data_sendOn 71 = .ok (.invokevirtual 89, 3) := by decide +kernel
theorem d_Data_sendOn_74 : decode b_Data_sendOn 74 = .ok (.aload_n 0, 1) := by decide +kernel
theorem d_Data_sendOn_75 : decode b_Data_sendOn 75 = .ok (.getfield 20, 3) := by decide +kernel
theorem d_Data_sendOn_78 : decode b_Data_sendOn 78 = .ok (.iload 6, 2) := by decide +kernel
theorem d_Data_sendOn_80 : decode b_Data_sendOn 80 = .ok (.iconst 2, 1) := by decide +kernel
theorem d_Data_sendOn_81 : decode b_Data_sendOn 81 = .ok (.iload_n 3, 1) := by decide +kernel
theorem d_Data_sendOn_82 : decode b_Data_sendOn 82 = .ok (.invokevirtual 89, 3) := by decide +kernel
theorem d_Data_sendOn_85 : decode b_Data_sendOn 85 = .ok (.aload_n 0, 1) := by decide +kernel
theorem d_Data_sendOn_86 : decode b_Data_sendOn 86 = .ok (.getfield 20, 3) := by decide +kernel
theorem d_Data_sendOn_89 : decode b_Data_sendOn 89 = .ok (.iload 6, 2) := by decide +kernel
theorem d_Data_sendOn_91 : decode b_Data_sendOn 91 = .ok (.iconst 3, 1) := by decide +kernel
theorem d_Data_sendOn_92 : decode b_Data_sendOn 92 = .ok (.iload 4, 2) := by decide +kernel
theorem d_Data_sendOn_94 : decode b_Data_sendOn 94 = .ok (.invokevirtual 89, 3) := by decide +kernel
theorem d_Data_sendOn_97 : decode b_Data_sendOn 97 = .ok (.aload_n 0, 1) := by decide +kernel
theorem d_Data_sendOn_98 : decode b_Data_sendOn 98 = .ok (.getfield 20, 3) := by decide +kernel
theorem d_Data_sendOn_101 : decode b_Data_sendOn 101 = .ok (.iload 6, 2) := by decide +kernel
theorem d_Data_sendOn_103 : decode b_Data_sendOn 103 = .ok (.iconst 4, 1) := by decide +kernel
theorem d_Data_sendOn_104 : decode b_Data_sendOn 104 = .ok (.iload 5, 2) := by decide +kernel
theorem d_Data_sendOn_106 : decode b_Data_sendOn 106 = .ok (.iconst 1, 1) := by decide +kernel
theorem d_Data_sendOn_107 : decode b_Data_sendOn 107 = .ok (.iadd, 1) := by decide +kernel
theorem d_Data_sendOn_108 : decode b_Data_sendOn 108 = .ok (.invokevirtual 89, 3) := by decide +kernel
theorem d_Data_sendOn_111 : decode b_Data_sendOn 111 = .ok (.return_, 1) := by decide +kernel
