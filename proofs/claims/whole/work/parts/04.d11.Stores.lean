/-! Decode rows by program. -/
theorem d_Stores_init_0 : decode b_Stores_init 0 = .ok (.aload_n 0, 1) := by decide +kernel
theorem d_Stores_init_1 : decode b_Stores_init 1 = .ok (.invokespecial 3, 3) := by decide +kernel
theorem d_Stores_init_4 : decode b_Stores_init 4 = .ok (.aload_n 0, 1) := by decide +kernel
theorem d_Stores_init_5 : decode b_Stores_init 5 = .ok (.new 9, 3) := by decide +kernel
theorem d_Stores_init_8 : decode b_Stores_init 8 = .ok (.dup, 1) := by decide +kernel
theorem d_Stores_init_9 : decode b_Stores_init 9 = .ok (.bipush 14, 2) := by decide +kernel
theorem d_Stores_init_11 : decode b_Stores_init 11 = .ok (.invokespecial 13, 3) := by decide +kernel
theorem d_Stores_init_14 : decode b_Stores_init 14 = .ok (.putfield 16, 3) := by decide +kernel
theorem d_Stores_init_17 : decode b_Stores_init 17 = .ok (.aload_n 0, 1) := by decide +kernel
theorem d_Stores_init_18 : decode b_Stores_init 18 = .ok (.bipush 12, 2) := by decide +kernel
theorem d_Stores_init_20 : decode b_Stores_init 20 = .ok (.bipush 12, 2) := by decide +kernel
theorem d_Stores_init_22 : decode b_Stores_init 22 = .ok (.multianewarray 20 2, 4) := by decide +kernel
theorem d_Stores_init_26 : decode b_Stores_init 26 = .ok (.putfield 22, 3) := by decide +kernel
theorem d_Stores_init_29 : decode b_Stores_init 29 = .ok (.aload_n 0, 1) := by decide +kernel
theorem d_Stores_init_30 : decode b_Stores_init 30 = .ok (.bipush 12, 2) := by decide +kernel
theorem d_Stores_init_32 : decode b_Stores_init 32 = .ok (.newarray .int, 2) := by decide +kernel
theorem d_Stores_init_34 : decode b_Stores_init 34 = .ok (.putfield 25, 3) := by decide +kernel
theorem d_Stores_init_37 : decode b_Stores_init 37 = .ok (.aload_n 0, 1) := by decide +kernel
theorem d_Stores_init_38 : decode b_Stores_init 38 = .ok (.getfield 16, 3) := by decide +kernel
theorem d_Stores_init_41 : decode b_Stores_init 41 = .ok (.invokevirtual 29, 3) := by decide +kernel
theorem d_Stores_init_44 : decode b_Stores_init 44 = .ok (.pop, 1) := by decide +kernel
theorem d_Stores_init_45 : decode b_Stores_init 45 = .ok (.return_, 1) := by decide +kernel
theorem d_Stores_hasRoomForTwo_0 : decode b_Stores_hasRoomForTwo 0 = .ok (.aload_n 0, 1) := by decide +kernel
theorem d_Stores_hasRoomForTwo_1 : decode b_Stores_hasRoomForTwo 1 = .ok (.getfield 16, 3) := by decide +kernel
theorem d_Stores_hasRoomForTwo_4 : decode b_Stores_hasRoomForTwo 4 = .ok (.invokevirtual 33, 3) := by decide +kernel
theorem d_Stores_hasRoomForTwo_7 : decode b_Stores_hasRoomForTwo 7 = .ok (.iconst 2, 1) := by decide +kernel
theorem d_Stores_hasRoomForTwo_8 : decode b_Stores_hasRoomForTwo 8 = .ok (.iadd, 1) := by decide +kernel
theorem d_Stores_hasRoomForTwo_9 : decode b_Stores_hasRoomForTwo 9 = .ok (.sipush 1025, 3) := by decide +kernel
theorem d_Stores_hasRoomForTwo_12 : decode b_Stores_hasRoomForTwo 12 = .ok (.if_icmp .gt 7, 3) := by decide +kernel
theorem d_Stores_hasRoomForTwo_15 : decode b_Stores_hasRoomForTwo 15 = .ok (.iconst 1, 1) := by decide +kernel
theorem d_Stores_hasRoomForTwo_16 : decode b_Stores_hasRoomForTwo 16 = .ok (.goto 4, 3) := by decide +kernel
theorem d_Stores_hasRoomForTwo_19 : decode b_Stores_hasRoomForTwo 19 = .ok (.iconst 0, 1) := by decide +kernel
theorem d_Stores_hasRoomForTwo_20 : decode b_Stores_hasRoomForTwo 20 = .ok (.ireturn, 1) := by decide +kernel
theorem d_Stores_advertOf_0 : decode b_Stores_advertOf 0 = .ok (.aload_n 0, 1) := by decide +kernel
theorem d_Stores_advertOf_1 : decode b_Stores_advertOf 1 = .ok (.getfield 22, 3) := by decide +kernel
theorem d_Stores_advertOf_4 : decode b_Stores_advertOf 4 = .ok (.iload_n 1, 1) := by decide +kernel
theorem d_Stores_advertOf_5 : decode b_Stores_advertOf 5 = .ok (.aaload, 1) := by decide +kernel
theorem d_Stores_advertOf_6 : decode b_Stores_advertOf 6 = .ok (.iload_n 2, 1) := by decide +kernel
theorem d_Stores_advertOf_7 : decode b_Stores_advertOf 7 = .ok (.iaload, 1) := by decide +kernel
theorem d_Stores_advertOf_8 : decode b_Stores_advertOf 8 = .ok (.ireturn, 1) := by decide +kernel
theorem d_Stores_hasAdvertOf_0 : decode b_Stores_hasAdvertOf 0 = .ok (.aload_n 0, 1) := by decide +kernel
theorem d_Stores_hasAdvertOf_1 : decode b_Stores_hasAdvertOf 1 = .ok (.getfield 22, 3) := by decide +kernel
theorem d_Stores_hasAdvertOf_4 : decode b_Stores_hasAdvertOf 4 = .ok (.iload_n 1, 1) := by decide +kernel
theorem d_Stores_hasAdvertOf_5 : decode b_Stores_hasAdvertOf 5 = .ok (.aaload, 1) := by decide +kernel
theorem d_Stores_hasAdvertOf_6 : decode b_Stores_hasAdvertOf 6 = .ok (.iload_n 2, 1) := by decide +kernel
theorem d_Stores_hasAdvertOf_7 : decode b_Stores_hasAdvertOf 7 = .ok (.iaload, 1) := by decide +kernel
theorem d_Stores_hasAdvertOf_8 : decode b_Stores_hasAdvertOf 8 = .ok (.ifCond .eq 7, 3) := by decide +kernel
theorem d_Stores_hasAdvertOf_11 : decode b_Stores_hasAdvertOf 11 = .ok (.iconst 1, 1) := by decide +kernel
theorem d_Stores_hasAdvertOf_12 : decode b_Stores_hasAdvertOf 12 = .ok (.goto 4, 3) := by decide +kernel
theorem d_Stores_hasAdvertOf_15 : decode b_Stores_hasAdvertOf 15 = .ok (.iconst 0, 1) := by decide +kernel
theorem d_Stores_hasAdvertOf_16 : decode b_Stores_hasAdvertOf 16 = .ok (.ireturn, 1) := by decide +kernel
theorem d_Stores_originOf_0 : decode b_Stores_originOf 0 = .ok (.aload_n 0, 1) := by decide +kernel
theorem d_Stores_originOf_1 : decode b_Stores_originOf 1 = .ok (.getfield 16, 3) := by decide +kernel
theorem d_Stores_originOf_4 : decode b_Stores_originOf 4 = .ok (.iload_n 1, 1) := by decide +kernel
theorem d_Stores_originOf_5 : decode b_Stores_originOf 5 = .ok (.iconst 0, 1) := by decide +kernel
theorem d_Stores_originOf_6 : decode b_Stores_originOf 6 = .ok (.invokevirtual 36, 3) := by decide +kernel
theorem d_Stores_originOf_9 : decode b_Stores_originOf 9 = .ok (.ireturn, 1) := by decide +kernel
theorem d_Stores_numberOf_0 : decode b_Stores_numberOf 0 = .ok (.aload_n 0, 1) := by decide +kernel
theorem d_Stores_numberOf_1 : decode b_Stores_numberOf 1 = .ok (.getfield 16, 3) := by decide +kernel
theorem d_Stores_numberOf_4 : decode b_Stores_numberOf 4 = .ok (.iload_n 1, 1) := by decide +kernel
theorem d_Stores_numberOf_5 : decode b_Stores_numberOf 5 = .ok (.iconst 1, 1) := by decide +kernel
theorem d_Stores_numberOf_6 : decode b_Stores_numberOf 6 = .ok (.invokevirtual 36, 3) := by decide +kernel
theorem d_Stores_numberOf_9 : decode b_Stores_numberOf 9 = .ok (.ireturn, 1) := by decide +kernel
theorem d_Stores_writeView_0 : decode b_Stores_writeView 0 = .ok (.iconst 0, 1) := by decide +kernel
theorem d_Stores_writeView_1 : decode b_Stores_writeView 1 = .ok (.istore_n 3, 1) := by decide +kernel
theorem d_Stores_writeView_2 : decode b_Stores_writeView 2 = .ok (.iload_n 3, 1) := by decide +kernel
theorem d_Stores_writeView_3 : decode b_Stores_writeView 3 = .ok (.bipush 12, 2) := by decide +kernel
theorem d_Stores_writeView_5 : decode b_Stores_writeView 5 = .ok (.if_icmp .ge 84, 3) := by decide +kernel
theorem d_Stores_writeView_8 : decode b_Stores_writeView 8 = .ok (.iconst 0, 1) := by decide +kernel
theorem d_Stores_writeView_9 : decode b_Stores_writeView 9 = .ok (.istore 4, 2) := by decide +kernel
theorem d_Stores_writeView_11 : decode b_Stores_writeView 11 = .ok (.iload 4, 2) := by decide +kernel
theorem d_Stores_writeView_13 : decode b_Stores_writeView 13 = .ok (.bipush 12, 2) := by decide +kernel
theorem d_Stores_writeView_15 : decode b_Stores_writeView 15 = .ok (.if_icmp .ge 68, 3) := by decide +kernel
theorem d_Stores_writeView_18 : decode b_Stores_writeView 18 = .ok (.aload_n 0, 1) := by decide +kernel
theorem d_Stores_writeView_19 : decode b_Stores_writeView 19 = .ok (.getfield 16, 3) := by decide +kernel
theorem d_Stores_writeView_22 : decode b_Stores_writeView 22 = .ok (.aload_n 0, 1) := by decide +kernel
theorem d_Stores_writeView_23 : decode b_Stores_writeView 23 = .ok (.getfield 22, 3) := by decide +kernel
theorem d_Stores_writeView_26 : decode b_Stores_writeView 26 = .ok (.iload_n 1, 1) := by decide +kernel
theorem d_Stores_writeView_27 : decode b_Stores_writeView 27 = .ok (.aaload, 1) := by decide +kernel
theorem d_Stores_writeView_28 : decode b_Stores_writeView 28 = .ok (.iload_n 3, 1) := by decide +kernel
theorem d_Stores_writeView_29 : decode b_Stores_writeView 29 = .ok (.iaload, 1) := by decide +kernel
theorem d_Stores_writeView_30 : decode b_Stores_writeView 30 = .ok (.iconst 2, 1) := by decide +kernel
theorem d_Stores_writeView_31 : decode b_Stores_writeView 31 = .ok (.iload 4, 2) := by decide +kernel
theorem d_Stores_writeView_33 : decode b_Stores_writeView 33 = .ok (.iadd, 1) := by decide +kernel
theorem d_Stores_writeView_34 : decode b_Stores_writeView 34 = .ok (.invokevirtual 36, 3) := by decide +kernel
theorem d_Stores_writeView_37 : decode b_Stores_writeView 37 = .ok (.istore 5, 2) := by decide +kernel
theorem d_Stores_writeView_39 : decode b_Stores_writeView 39 = .ok (.aload_n 0, 1) := by decide +kernel
theorem d_Stores_writeView_40 : decode b_Stores_writeView 40 = .ok (.getfield 16, 3) := by decide +kernel
theorem d_Stores_writeView_43 : decode b_Stores_writeView 43 = .ok (.aload_n 0, 1) := by decide +kernel
theorem d_Stores_writeView_44 : decode b_Stores_writeView 44 = .ok (.getfield 22, 3) := by decide +kernel
theorem d_Stores_writeView_47 : decode b_Stores_writeView 47 = .ok (.iload_n 1, 1) := by decide +kernel
theorem d_Stores_writeView_48 : decode b_Stores_writeView 48 = .ok (.aaload, 1) := by decide +kernel
theorem d_Stores_writeView_49 : decode b_Stores_writeView 49 = .ok (.iload 4, 2) := by decide +kernel
theorem d_Stores_writeView_51 : decode b_Stores_writeView 51 = .ok (.iaload, 1) := by decide +kernel
theorem d_Stores_writeView_52 : decode b_Stores_writeView 52 = .ok (.iconst 2, 1) := by decide +kernel
theorem d_Stores_writeView_53 : decode b_Stores_writeView 53 = .ok (.iload_n 3, 1) := by decide +kernel
theorem d_Stores_writeView_54 : decode b_Stores_writeView 54 = .ok (.iadd, 1) := by decide +kernel
theorem d_Stores_writeView_55 : decode b_Stores_writeView 55 = .ok (.invokevirtual 36, 3) := by decide +kernel
theorem d_Stores_writeView_58 : decode b_Stores_writeView 58 = .ok (.istore 6, 2) := by decide +kernel
theorem d_Stores_writeView_60 : decode b_Stores_writeView 60 = .ok (.aload_n 2, 1) := by decide +kernel
theorem d_Stores_writeView_61 : decode b_Stores_writeView 61 = .ok (.iload_n 3, 1) := by decide +kernel
theorem d_Stores_writeView_62 : decode b_Stores_writeView 62 = .ok (.aaload, 1) := by decide +kernel
theorem d_Stores_writeView_63 : decode b_Stores_writeView 63 = .ok (.iload 4, 2) := by decide +kernel
theorem d_Stores_writeView_65 : decode b_Stores_writeView 65 = .ok (.iload 6, 2) := by decide +kernel
theorem d_Stores_writeView_67 : decode b_Stores_writeView 67 = .ok (.ifCond .ne 7, 3) := by decide +kernel
theorem d_Stores_writeView_70 : decode b_Stores_writeView 70 = .ok (.iconst 0, 1) := by decide +kernel
theorem d_Stores_writeView_71 : decode b_Stores_writeView 71 = .ok (.goto 5, 3) := by decide +kernel
theorem d_Stores_writeView_74 : decode b_Stores_writeView 74 = .ok (.iload 5, 2) := by decide +kernel
theorem d_Stores_writeView_76 : decode b_Stores_writeView 76 = .ok (.iastore, 1) := by decide +kernel
theorem d_Stores_writeView_77 : decode b_Stores_writeView 77 = .ok (.iinc 4 1, 3) := by decide +kernel
theorem d_Stores_writeView_80 : decode b_Stores_writeView 80 = .ok (.goto (-69), 3) := by decide +kernel
theorem d_Stores_writeView_83 : decode b_Stores_writeView 83 = .ok (.iinc 3 1, 3) := by decide +kernel
theorem d_Stores_writeView_86 : decode b_Stores_writeView 86 = .ok (.goto (-84), 3) := by decide +kernel
theorem d_Stores_writeView_89 : decode b_Stores_writeView 89 = .ok (.return_, 1) := by decide +kernel
theorem d_Stores_changesOf_0 : decode b_Stores_changesOf 0 = .ok (.aload_n 0, 1) := by decide +kernel
theorem d_Stores_changesOf_1 : decode b_Stores_changesOf 1 = .ok (.getfield 25, 3) := by decide +kernel
theorem d_Stores_changesOf_4 : decode b_Stores_changesOf 4 = .ok (.iload_n 1, 1) := by decide +kernel
theorem d_Stores_changesOf_5 : decode b_Stores_changesOf 5 = .ok (.iaload, 1) := by decide +kernel
theorem d_Stores_changesOf_6 : decode b_Stores_changesOf 6 = .ok (.ireturn, 1) := by decide +kernel
theorem d_Stores_keep_0 : decode b_Stores_keep 0 = .ok (.aload_n 0, 1) := by decide +kernel
theorem d_Stores_keep_1 : decode b_Stores_keep 1 = .ok (.getfield 22, 3) := by decide +kernel
theorem d_Stores_keep_4 : decode b_Stores_keep 4 = .ok (.iload_n 1, 1) := by decide +kernel
theorem d_Stores_keep_5 : decode b_Stores_keep 5 = .ok (.aaload, 1) := by decide +kernel
theorem d_Stores_keep_6 : decode b_Stores_keep 6 = .ok (.aload_n 0, 1) := by decide +kernel
theorem d_Stores_keep_7 : decode b_Stores_keep 7 = .ok (.iload_n 2, 1) := by decide +kernel
theorem d_Stores_keep_8 : decode b_Stores_keep 8 = .ok (.invokevirtual 40, 3) := by decide +kernel
theorem d_Stores_keep_11 : decode b_Stores_keep 11 = .ok (.iload_n 2, 1) := by decide +kernel
theorem d_Stores_keep_12 : decode b_Stores_keep 12 = .ok (.iastore, 1) := by decide +kernel
theorem d_Stores_keep_13 : decode b_Stores_keep 13 = .ok (.aload_n 0, 1) := by decide +kernel
theorem d_Stores_keep_14 : decode b_Stores_keep 14 = .ok (.getfield 25, 3) := by decide +kernel
theorem d_Stores_keep_17 : decode b_Stores_keep 17 = .ok (.iload_n 1, 1) := by decide +kernel
theorem d_Stores_keep_18 : decode b_Stores_keep 18 = .ok (.dup2, 1) := by decide +kernel
theorem d_Stores_keep_19 : decode b_Stores_keep 19 = .ok (.iaload, 1) := by decide +kernel
theorem d_Stores_keep_20 : decode b_Stores_keep 20 = .ok (.iconst 1, 1) := by decide +kernel
theorem d_Stores_keep_21 : decode b_Stores_keep 21 = .ok (.iadd, 1) := by decide +kernel
theorem d_Stores_keep_22 : decode b_Stores_keep 22 = .ok (.iastore, 1) := by decide +kernel
theorem d_Stores_keep_23 : decode b_Stores_keep 23 = .ok (.return_, 1) := by decide +kernel
theorem d_Stores_makeAdvert_0 : decode b_Stores_makeAdvert 0 = .ok (.aload_n 0, 1) := by decide +kernel
theorem d_Stores_makeAdvert_1 : decode b_Stores_makeAdvert 1 = .ok (.aload_n 0, 1) := by decide +kernel
theorem d_Stores_makeAdvert_2 : decode b_Stores_makeAdvert 2 = .ok (.getfield 22, 3) := by decide +kernel
theorem d_Stores_makeAdvert_5 : decode b_Stores_makeAdvert 5 = .ok (.iload_n 1, 1) := by decide +kernel
theorem d_Stores_makeAdvert_6 : decode b_Stores_makeAdvert 6 = .ok (.aaload, 1) := by decide +kernel
theorem d_Stores_makeAdvert_7 : decode b_Stores_makeAdvert 7 = .ok (.iload_n 1, 1) := by decide +kernel
theorem d_Stores_makeAdvert_8 : decode b_Stores_makeAdvert 8 = .ok (.iaload, 1) := by decide +kernel
theorem d_Stores_makeAdvert_9 : decode b_Stores_makeAdvert 9 = .ok (.invokevirtual 44, 3) := by decide +kernel
theorem d_Stores_makeAdvert_12 : decode b_Stores_makeAdvert 12 = .ok (.iconst 1, 1) := by decide +kernel
theorem d_Stores_makeAdvert_13 : decode b_Stores_makeAdvert 13 = .ok (.iadd, 1) := by decide +kernel
theorem d_Stores_makeAdvert_14 : decode b_Stores_makeAdvert 14 = .ok (.istore_n 3, 1) := by decide +kernel
theorem d_Stores_makeAdvert_15 : decode b_Stores_makeAdvert 15 = .ok (.aload_n 0, 1) := by decide +kernel
theorem d_Stores_makeAdvert_16 : decode b_Stores_makeAdvert 16 = .ok (.getfield 16, 3) := by decide +kernel
theorem d_Stores_makeAdvert_19 : decode b_Stores_makeAdvert 19 = .ok (.invokevirtual 29, 3) := by decide +kernel
theorem d_Stores_makeAdvert_22 : decode b_Stores_makeAdvert 22 = .ok (.istore 4, 2) := by decide +kernel
theorem d_Stores_makeAdvert_24 : decode b_Stores_makeAdvert 24 = .ok (.aload_n 0, 1) := by decide +kernel
theorem d_Stores_makeAdvert_25 : decode b_Stores_makeAdvert 25 = .ok (.getfield 16, 3) := by decide +kernel
theorem d_Stores_makeAdvert_28 : decode b_Stores_makeAdvert 28 = .ok (.iload 4, 2) := by decide +kernel
theorem d_Stores_makeAdvert_30 : decode b_Stores_makeAdvert 30 = .ok (.iconst 0, 1) := by decide +kernel
theorem d_Stores_makeAdvert_31 : decode b_Stores_makeAdvert 31 = .ok (.iload_n 1, 1) := by decide +kernel
theorem d_Stores_makeAdvert_32 : decode b_Stores_makeAdvert 32 = .ok (.invokevirtual 47, 3) := by decide +kernel
theorem d_Stores_makeAdvert_35 : decode b_Stores_makeAdvert 35 = .ok (.aload_n 0, 1) := by decide +kernel
theorem d_Stores_makeAdvert_36 : decode b_Stores_makeAdvert 36 = .ok (.getfield 16, 3) := by decide +kernel
theorem d_Stores_makeAdvert_39 : decode b_Stores_makeAdvert 39 = .ok (.iload 4, 2) := by decide +kernel
theorem d_Stores_makeAdvert_41 : decode b_Stores_makeAdvert 41 = .ok (.iconst 1, 1) := by decide +kernel
theorem d_Stores_makeAdvert_42 : decode b_Stores_makeAdvert 42 = .ok (.iload_n 3, 1) := by decide +kernel
theorem d_Stores_makeAdvert_43 : decode b_Stores_makeAdvert 43 = .ok (.invokevirtual 47, 3) := by decide +kernel
theorem d_Stores_makeAdvert_46 : decode b_Stores_makeAdvert 46 = .ok (.iconst 0, 1) := by decide +kernel
theorem d_Stores_makeAdvert_47 : decode b_Stores_makeAdvert 47 = .ok (.istore 5, 2) := by decide +kernel
theorem d_Stores_makeAdvert_49 : decode b_Stores_makeAdvert 49 = .ok (.iload 5, 2) := by decide +kernel
theorem d_Stores_makeAdvert_51 : decode b_Stores_makeAdvert 51 = .ok (.bipush 12, 2) := by decide +kernel
theorem d_Stores_makeAdvert_53 : decode b_Stores_makeAdvert 53 = .ok (.if_icmp .ge 29, 3) := by decide +kernel
theorem d_Stores_makeAdvert_56 : decode b_Stores_makeAdvert 56 = .ok (.aload_n 0, 1) := by decide +kernel
theorem d_Stores_makeAdvert_57 : decode b_Stores_makeAdvert 57 = .ok (.getfield 16, 3) := by decide +kernel
theorem d_Stores_makeAdvert_60 : decode b_Stores_makeAdvert 60 = .ok (.iload 4, 2) := by decide +kernel
theorem d_Stores_makeAdvert_62 : decode b_Stores_makeAdvert 62 = .ok (.iconst 2, 1) := by decide +kernel
theorem d_Stores_makeAdvert_63 : decode b_Stores_makeAdvert 63 = .ok (.iload 5, 2) := by decide +kernel
theorem d_Stores_makeAdvert_65 : decode b_Stores_makeAdvert 65 = .ok (.iadd, 1) := by decide +kernel
theorem d_Stores_makeAdvert_66 : decode b_Stores_makeAdvert 66 = .ok (.aload_n 2, 1) := by decide +kernel
theorem d_Stores_makeAdvert_67 : decode b_Stores_makeAdvert 67 = .ok (.iload_n 1, 1) := by decide +kernel
theorem d_Stores_makeAdvert_68 : decode b_Stores_makeAdvert 68 = .ok (.iload 5, 2) := by decide +kernel
theorem d_Stores_makeAdvert_70 : decode b_Stores_makeAdvert 70 = .ok (.invokevirtual 51, 3) := by decide +kernel
theorem d_Stores_makeAdvert_73 : decode b_Stores_makeAdvert 73 = .ok (.invokevirtual 47, 3) := by decide +kernel
theorem d_Stores_makeAdvert_76 : decode b_Stores_makeAdvert 76 = .ok (.iinc 5 1, 3) := by decide +kernel
theorem d_Stores_makeAdvert_79 : decode b_Stores_makeAdvert 79 = .ok (.goto (-30), 3) := by decide +kernel
theorem d_Stores_makeAdvert_82 : decode b_Stores_makeAdvert 82 = .ok (.iload 4, 2) := by decide +kernel
theorem d_Stores_makeAdvert_84 : decode b_Stores_makeAdvert 84 = .ok (.ireturn, 1) := by decide +kernel
theorem d_Stores_areSame_0 : decode b_Stores_areSame 0 = .ok (.iconst 0, 1) := by decide +kernel
theorem d_Stores_areSame_1 : decode b_Stores_areSame 1 = .ok (.istore_n 3, 1) := by decide +kernel
theorem d_Stores_areSame_2 : decode b_Stores_areSame 2 = .ok (.iload_n 3, 1) := by decide +kernel
theorem d_Stores_areSame_3 : decode b_Stores_areSame 3 = .ok (.bipush 12, 2) := by decide +kernel
theorem d_Stores_areSame_5 : decode b_Stores_areSame 5 = .ok (.if_icmp .ge 30, 3) := by decide +kernel
theorem d_Stores_areSame_8 : decode b_Stores_areSame 8 = .ok (.aload_n 0, 1) := by decide +kernel
theorem d_Stores_areSame_9 : decode b_Stores_areSame 9 = .ok (.getfield 22, 3) := by decide +kernel
theorem d_Stores_areSame_12 : decode b_Stores_areSame 12 = .ok (.iload_n 1, 1) := by decide +kernel
theorem d_Stores_areSame_13 : decode b_Stores_areSame 13 = .ok (.aaload, 1) := by decide +kernel
theorem d_Stores_areSame_14 : decode b_Stores_areSame 14 = .ok (.iload_n 3, 1) := by decide +kernel
theorem d_Stores_areSame_15 : decode b_Stores_areSame 15 = .ok (.iaload, 1) := by decide +kernel
theorem d_Stores_areSame_16 : decode b_Stores_areSame 16 = .ok (.aload_n 0, 1) := by decide +kernel
theorem d_Stores_areSame_17 : decode b_Stores_areSame 17 = .ok (.getfield 22, 3) := by decide +kernel
theorem d_Stores_areSame_20 : decode b_Stores_areSame 20 = .ok (.iload_n 2, 1) := by decide +kernel
theorem d_Stores_areSame_21 : decode b_Stores_areSame 21 = .ok (.aaload, 1) := by decide +kernel
theorem d_Stores_areSame_22 : decode b_Stores_areSame 22 = .ok (.iload_n 3, 1) := by decide +kernel
theorem d_Stores_areSame_23 : decode b_Stores_areSame 23 = .ok (.iaload, 1) := by decide +kernel
theorem d_Stores_areSame_24 : decode b_Stores_areSame 24 = .ok (.if_icmp .eq 5, 3) := by decide +kernel
theorem d_Stores_areSame_27 : decode b_Stores_areSame 27 = .ok (.iconst 0, 1) := by decide +kernel
theorem d_Stores_areSame_28 : decode b_Stores_areSame 28 = .ok (.ireturn, 1) := by decide +kernel
theorem d_Stores_areSame_29 : decode b_Stores_areSame 29 = .ok (.iinc 3 1, 3) := by decide +kernel
theorem d_Stores_areSame_32 : decode b_Stores_areSame 32 = .ok (.goto (-30), 3) := by decide +kernel
theorem d_Stores_areSame_35 : decode b_Stores_areSame 35 = .ok (.iconst 1, 1) := by decide +kernel
theorem d_Stores_areSame_36 : decode b_Stores_areSame 36 = .ok (.ireturn, 1) := by decide +kernel
