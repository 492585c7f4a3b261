/-! Decode rows by program. -/
theorem d_Control_init_0 : decode b_Control_init 0 = .ok (.aload_n 0, 1) := by decide +kernel
theorem d_Control_init_1 : decode b_Control_init 1 = .ok (.invokespecial 3, 3) := by decide +kernel
theorem d_Control_init_4 : decode b_Control_init 4 = .ok (.aload_n 0, 1) := by decide +kernel
theorem d_Control_init_5 : decode b_Control_init 5 = .ok (.new 9, 3) := by decide +kernel
theorem d_Control_init_8 : decode b_Control_init 8 = .ok (.dup, 1) := by decide +kernel
theorem d_Control_init_9 : decode b_Control_init 9 = .ok (.iconst 3, 1) := by decide +kernel
theorem d_Control_init_10 : decode b_Control_init 10 = .ok (.invokespecial 11, 3) := by decide +kernel
theorem d_Control_init_13 : decode b_Control_init 13 = .ok (.putfield 14, 3) := by decide +kernel
theorem d_Control_init_16 : decode b_Control_init 16 = .ok (.aload_n 0, 1) := by decide +kernel
theorem d_Control_init_17 : decode b_Control_init 17 = .ok (.aload_n 1, 1) := by decide +kernel
theorem d_Control_init_18 : decode b_Control_init 18 = .ok (.putfield 20, 3) := by decide +kernel
theorem d_Control_init_21 : decode b_Control_init 21 = .ok (.aload_n 0, 1) := by decide +kernel
theorem d_Control_init_22 : decode b_Control_init 22 = .ok (.aload_n 2, 1) := by decide +kernel
theorem d_Control_init_23 : decode b_Control_init 23 = .ok (.putfield 24, 3) := by decide +kernel
theorem d_Control_init_26 : decode b_Control_init 26 = .ok (.return_, 1) := by decide +kernel
theorem d_Control_onTheWay_0 : decode b_Control_onTheWay 0 = .ok (.aload_n 0, 1) := by decide +kernel
theorem d_Control_onTheWay_1 : decode b_Control_onTheWay 1 = .ok (.getfield 14, 3) := by decide +kernel
theorem d_Control_onTheWay_4 : decode b_Control_onTheWay 4 = .ok (.invokevirtual 28, 3) := by decide +kernel
theorem d_Control_onTheWay_7 : decode b_Control_onTheWay 7 = .ok (.ireturn, 1) := by decide +kernel
theorem d_Control_messagesLost_0 : decode b_Control_messagesLost 0 = .ok (.aload_n 0, 1) := by decide +kernel
theorem d_Control_messagesLost_1 : decode b_Control_messagesLost 1 = .ok (.getfield 32, 3) := by decide +kernel
theorem d_Control_messagesLost_4 : decode b_Control_messagesLost 4 = .ok (.ireturn, 1) := by decide +kernel
theorem d_Control_hasRoomForLinks_0 : decode b_Control_hasRoomForLinks 0 = .ok (.aload_n 0, 1) := by decide +kernel
theorem d_Control_hasRoomForLinks_1 : decode b_Control_hasRoomForLinks 1 = .ok (.getfield 14, 3) := by decide +kernel
theorem d_Control_hasRoomForLinks_4 : decode b_Control_hasRoomForLinks 4 = .ok (.invokevirtual 28, 3) := by decide +kernel
theorem d_Control_hasRoomForLinks_7 : decode b_Control_hasRoomForLinks 7 = .ok (.sipush 2000, 3) := by decide +kernel
theorem d_Control_hasRoomForLinks_10 : decode b_Control_hasRoomForLinks 10 = .ok (.if_icmp .ge 17, 3) := by decide +kernel
theorem d_Control_hasRoomForLinks_13 : decode b_Control_hasRoomForLinks 13 = .ok (.aload_n 0, 1) := by decide +kernel
theorem d_Control_hasRoomForLinks_14 : decode b_Control_hasRoomForLinks 14 = .ok (.getfield 24, 3) := by decide +kernel
theorem d_Control_hasRoomForLinks_17 : decode b_Control_hasRoomForLinks 17 = .ok (.invokevirtual 36, 3) := by decide +kernel
theorem d_Control_hasRoomForLinks_20 : decode b_Control_hasRoomForLinks 20 = .ok (.ifCond .eq 7, 3) := by decide +kernel
theorem d_Control_hasRoomForLinks_23 : decode b_Control_hasRoomForLinks 23 = .ok (.iconst 1, 1) := by decide +kernel
theorem d_Control_hasRoomForLinks_24 : decode b_Control_hasRoomForLinks 24 = .ok (.goto 4, 3) := by decide +kernel
theorem d_Control_hasRoomForLinks_27 : decode b_Control_hasRoomForLinks 27 = .ok (.iconst 0, 1) := by decide +kernel
theorem d_Control_hasRoomForLinks_28 : decode b_Control_hasRoomForLinks 28 = .ok (.ireturn, 1) := by decide +kernel
theorem d_Control_greet_0 : decode b_Control_greet 0 = .ok (.aload_n 0, 1) := by decide +kernel
theorem d_Control_greet_1 : decode b_Control_greet 1 = .ok (.iload_n 1, 1) := by decide +kernel
theorem d_Control_greet_2 : decode b_Control_greet 2 = .ok (.invokevirtual 42, 3) := by decide +kernel
theorem d_Control_greet_5 : decode b_Control_greet 5 = .ok (.aload_n 0, 1) := by decide +kernel
theorem d_Control_greet_6 : decode b_Control_greet 6 = .ok (.iload_n 2, 1) := by decide +kernel
theorem d_Control_greet_7 : decode b_Control_greet 7 = .ok (.invokevirtual 42, 3) := by decide +kernel
theorem d_Control_greet_10 : decode b_Control_greet 10 = .ok (.aload_n 0, 1) := by decide +kernel
theorem d_Control_greet_11 : decode b_Control_greet 11 = .ok (.iload_n 1, 1) := by decide +kernel
theorem d_Control_greet_12 : decode b_Control_greet 12 = .ok (.iload_n 2, 1) := by decide +kernel
theorem d_Control_greet_13 : decode b_Control_greet 13 = .ok (.invokevirtual 45, 3) := by decide +kernel
theorem d_Control_greet_16 : decode b_Control_greet 16 = .ok (.aload_n 0, 1) := by decide +kernel
theorem d_Control_greet_17 : decode b_Control_greet 17 = .ok (.iload_n 2, 1) := by decide +kernel
theorem d_Control_greet_18 : decode b_Control_greet 18 = .ok (.iload_n 1, 1) := by decide +kernel
theorem d_Control_greet_19 : decode b_Control_greet 19 = .ok (.invokevirtual 45, 3) := by decide +kernel
theorem d_Control_greet_22 : decode b_Control_greet 22 = .ok (.return_, 1) := by decide +kernel
theorem d_Control_advertise_0 : decode b_Control_advertise 0 = .ok (.aload_n 0, 1) := by decide +kernel
theorem d_Control_advertise_1 : decode b_Control_advertise 1 = .ok (.getfield 24, 3) := by decide +kernel
theorem d_Control_advertise_4 : decode b_Control_advertise 4 = .ok (.iload_n 1, 1) := by decide +kernel
theorem d_Control_advertise_5 : decode b_Control_advertise 5 = .ok (.aload_n 0, 1) := by decide +kernel
theorem d_Control_advertise_6 : decode b_Control_advertise 6 = .ok (.getfield 20, 3) := by decide +kernel
theorem d_Control_advertise_9 : decode b_Control_advertise 9 = .ok (.invokevirtual 49, 3) := by decide +kernel
theorem d_Control_advertise_12 : decode b_Control_advertise 12 = .ok (.istore_n 2, 1) := by decide +kernel
theorem d_Control_advertise_13 : decode b_Control_advertise 13 = .ok (.aload_n 0, 1) := by decide +kernel
theorem d_Control_advertise_14 : decode b_Control_advertise 14 = .ok (.getfield 24, 3) := by decide +kernel
theorem d_Control_advertise_17 : decode b_Control_advertise 17 = .ok (.iload_n 1, 1) := by decide +kernel
theorem d_Control_advertise_18 : decode b_Control_advertise 18 = .ok (.iload_n 2, 1) := by decide +kernel
theorem d_Control_advertise_19 : decode b_Control_advertise 19 = .ok (.invokevirtual 53, 3) := by decide +kernel
theorem d_Control_advertise_22 : decode b_Control_advertise 22 = .ok (.aload_n 0, 1) := by decide +kernel
theorem d_Control_advertise_23 : decode b_Control_advertise 23 = .ok (.iconst (-1), 1) := by decide +kernel
theorem d_Control_advertise_24 : decode b_Control_advertise 24 = .ok (.iload_n 1, 1) := by decide +kernel
theorem d_Control_advertise_25 : decode b_Control_advertise 25 = .ok (.iload_n 2, 1) := by decide +kernel
theorem d_Control_advertise_26 : decode b_Control_advertise 26 = .ok (.invokevirtual 56, 3) := by decide +kernel
theorem d_Control_advertise_29 : decode b_Control_advertise 29 = .ok (.return_, 1) := by decide +kernel
theorem d_Control_deliverOldest_0 : decode b_Control_deliverOldest 0 = .ok (.aload_n 0, 1) := by decide +kernel
theorem d_Control_deliverOldest_1 : decode b_Control_deliverOldest 1 = .ok (.getfield 14, 3) := by decide +kernel
theorem d_Control_deliverOldest_4 : decode b_Control_deliverOldest 4 = .ok (.iconst 0, 1) := by decide +kernel
theorem d_Control_deliverOldest_5 : decode b_Control_deliverOldest 5 = .ok (.iconst 0, 1) := by decide +kernel
theorem d_Control_deliverOldest_6 : decode b_Control_deliverOldest 6 = .ok (.invokevirtual 60, 3) := by decide +kernel
theorem d_Control_deliverOldest_9 : decode b_Control_deliverOldest 9 = .ok (.istore_n 1, 1) := by decide +kernel
theorem d_Control_deliverOldest_10 : decode b_Control_deliverOldest 10 = .ok (.aload_n 0, 1) := by decide +kernel
theorem d_Control_deliverOldest_11 : decode b_Control_deliverOldest 11 = .ok (.getfield 14, 3) := by decide +kernel
theorem d_Control_deliverOldest_14 : decode b_Control_deliverOldest 14 = .ok (.iconst 0, 1) := by decide +kernel
theorem d_Control_deliverOldest_15 : decode b_Control_deliverOldest 15 = .ok (.iconst 1, 1) := by decide +kernel
theorem d_Control_deliverOldest_16 : decode b_Control_deliverOldest 16 = .ok (.invokevirtual 60, 3) := by decide +kernel
theorem d_Control_deliverOldest_19 : decode b_Control_deliverOldest 19 = .ok (.istore_n 2, 1) := by decide +kernel
theorem d_Control_deliverOldest_20 : decode b_Control_deliverOldest 20 = .ok (.aload_n 0, 1) := by decide +kernel
theorem d_Control_deliverOldest_21 : decode b_Control_deliverOldest 21 = .ok (.getfield 14, 3) := by decide +kernel
theorem d_Control_deliverOldest_24 : decode b_Control_deliverOldest 24 = .ok (.iconst 0, 1) := by decide +kernel
theorem d_Control_deliverOldest_25 : decode b_Control_deliverOldest 25 = .ok (.iconst 2, 1) := by decide +kernel
theorem d_Control_deliverOldest_26 : decode b_Control_deliverOldest 26 = .ok (.invokevirtual 60, 3) := by decide +kernel
theorem d_Control_deliverOldest_29 : decode b_Control_deliverOldest 29 = .ok (.istore_n 3, 1) := by decide +kernel
theorem d_Control_deliverOldest_30 : decode b_Control_deliverOldest 30 = .ok (.aload_n 0, 1) := by decide +kernel
theorem d_Control_deliverOldest_31 : decode b_Control_deliverOldest 31 = .ok (.getfield 14, 3) := by decide +kernel
theorem d_Control_deliverOldest_34 : decode b_Control_deliverOldest 34 = .ok (.invokevirtual 64, 3) := by decide +kernel
theorem d_Control_deliverOldest_37 : decode b_Control_deliverOldest 37 = .ok (.aload_n 0, 1) := by decide +kernel
theorem d_Control_deliverOldest_38 : decode b_Control_deliverOldest 38 = .ok (.getfield 20, 3) := by decide +kernel
theorem d_Control_deliverOldest_41 : decode b_Control_deliverOldest 41 = .ok (.iload_n 1, 1) := by decide +kernel
theorem d_Control_deliverOldest_42 : decode b_Control_deliverOldest 42 = .ok (.iload_n 2, 1) := by decide +kernel
theorem d_Control_deliverOldest_43 : decode b_Control_deliverOldest 43 = .ok (.invokevirtual 67, 3) := by decide +kernel
theorem d_Control_deliverOldest_46 : decode b_Control_deliverOldest 46 = .ok (.ifCond .eq 13, 3) := by decide +kernel
theorem d_Control_deliverOldest_49 : decode b_Control_deliverOldest 49 = .ok (.aload_n 0, 1) := by decide +kernel
theorem d_Control_deliverOldest_50 : decode b_Control_deliverOldest 50 = .ok (.iload_n 2, 1) := by decide +kernel
theorem d_Control_deliverOldest_51 : decode b_Control_deliverOldest 51 = .ok (.iload_n 1, 1) := by decide +kernel
theorem d_Control_deliverOldest_52 : decode b_Control_deliverOldest 52 = .ok (.iload_n 3, 1) := by decide +kernel
theorem d_Control_deliverOldest_53 : decode b_Control_deliverOldest 53 = .ok (.invokevirtual 73, 3) := by decide +kernel
theorem d_Control_deliverOldest_56 : decode b_Control_deliverOldest 56 = .ok (.goto 13, 3) := by decide +kernel
theorem d_Control_deliverOldest_59 : decode b_Control_deliverOldest 59 = .ok (.aload_n 0, 1) := by decide +kernel
theorem d_Control_deliverOldest_60 : decode b_Control_deliverOldest 60 = .ok (.dup, 1) := by decide +kernel
theorem d_Control_deliverOldest_61 : decode b_Control_deliverOldest 61 = .ok (.getfield 32, 3) := by decide +kernel
theorem d_Control_deliverOldest_64 : decode b_Control_deliverOldest 64 = .ok (.iconst 1, 1) := by decide +kernel
theorem d_Control_deliverOldest_65 : decode b_Control_deliverOldest 65 = .ok (.iadd, 1) := by decide +kernel
theorem d_Control_deliverOldest_66 : decode b_Control_deliverOldest 66 = .ok (.putfield 32, 3) := by decide +kernel
theorem d_Control_deliverOldest_69 : decode b_Control_deliverOldest 69 = .ok (.return_, 1) := by decide +kernel
theorem d_Control_neighboursAgree_0 : decode b_Control_neighboursAgree 0 = .ok (.iconst 0, 1) := by decide +kernel
theorem d_Control_neighboursAgree_1 : decode b_Control_neighboursAgree 1 = .ok (.istore_n 1, 1) := by decide +kernel
theorem d_Control_neighboursAgree_2 : decode b_Control_neighboursAgree 2 = .ok (.iload_n 1, 1) := by decide +kernel
theorem d_Control_neighboursAgree_3 : decode b_Control_neighboursAgree 3 = .ok (.bipush 12, 2) := by decide +kernel
theorem d_Control_neighboursAgree_5 : decode b_Control_neighboursAgree 5 = .ok (.if_icmp .ge 51, 3) := by decide +kernel
theorem d_Control_neighboursAgree_8 : decode b_Control_neighboursAgree 8 = .ok (.iload_n 1, 1) := by decide +kernel
theorem d_Control_neighboursAgree_9 : decode b_Control_neighboursAgree 9 = .ok (.iconst 1, 1) := by decide +kernel
theorem d_Control_neighboursAgree_10 : decode b_Control_neighboursAgree 10 = .ok (.iadd, 1) := by decide +kernel
theorem d_Control_neighboursAgree_11 : decode b_Control_neighboursAgree 11 = .ok (.istore_n 2, 1) := by decide +kernel
theorem d_Control_neighboursAgree_12 : decode b_Control_neighboursAgree 12 = .ok (.iload_n 2, 1) := by decide +kernel
theorem d_Control_neighboursAgree_13 : decode b_Control_neighboursAgree 13 = .ok (.bipush 12, 2) := by decide +kernel
theorem d_Control_neighboursAgree_15 : decode b_Control_neighboursAgree 15 = .ok (.if_icmp .ge 35, 3) := by decide +kernel
theorem d_Control_neighboursAgree_18 : decode b_Control_neighboursAgree 18 = .ok (.aload_n 0, 1) := by decide +kernel
theorem d_Control_neighboursAgree_19 : decode b_Control_neighboursAgree 19 = .ok (.getfield 20, 3) := by decide +kernel
theorem d_Control_neighboursAgree_22 : decode b_Control_neighboursAgree 22 = .ok (.iload_n 1, 1) := by decide +kernel
theorem d_Control_neighboursAgree_23 : decode b_Control_neighboursAgree 23 = .ok (.iload_n 2, 1) := by decide +kernel
theorem d_Control_neighboursAgree_24 : decode b_Control_neighboursAgree 24 = .ok (.invokevirtual 67, 3) := by decide +kernel
theorem d_Control_neighboursAgree_27 : decode b_Control_neighboursAgree 27 = .ok (.ifCond .eq 17, 3) := by decide +kernel
theorem d_Control_neighboursAgree_30 : decode b_Control_neighboursAgree 30 = .ok (.aload_n 0, 1) := by decide +kernel
theorem d_Control_neighboursAgree_31 : decode b_Control_neighboursAgree 31 = .ok (.getfield 24, 3) := by decide +kernel
theorem d_Control_neighboursAgree_34 : decode b_Control_neighboursAgree 34 = .ok (.iload_n 1, 1) := by decide +kernel
theorem d_Control_neighboursAgree_35 : decode b_Control_neighboursAgree 35 = .ok (.iload_n 2, 1) := by decide +kernel
theorem d_Control_neighboursAgree_36 : decode b_Control_neighboursAgree 36 = .ok (.invokevirtual 76, 3) := by decide +kernel
theorem d_Control_neighboursAgree_39 : decode b_Control_neighboursAgree 39 = .ok (.ifCond .ne 5, 3) := by decide +kernel
theorem d_Control_neighboursAgree_42 : decode b_Control_neighboursAgree 42 = .ok (.iconst 0, 1) := by decide +kernel
theorem d_Control_neighboursAgree_43 : decode b_Control_neighboursAgree 43 = .ok (.ireturn, 1) := by decide +kernel
theorem d_Control_neighboursAgree_44 : decode b_Control_neighboursAgree 44 = .ok (.iinc 2 1, 3) := by decide +kernel
theorem d_Control_neighboursAgree_47 : decode b_Control_neighboursAgree 47 = .ok (.goto (-35), 3) := by decide +kernel
theorem d_Control_neighboursAgree_50 : decode b_Control_neighboursAgree 50 = .ok (.iinc 1 1, 3) := by decide +kernel
theorem d_Control_neighboursAgree_53 : decode b_Control_neighboursAgree 53 = .ok (.goto (-51), 3) := by decide +kernel
theorem d_Control_neighboursAgree_56 : decode b_Control_neighboursAgree 56 = .ok (.iconst 1, 1) := by decide +kernel
theorem d_Control_neighboursAgree_57 : decode b_Control_neighboursAgree 57 = .ok (.ireturn, 1) := by decide +kernel
theorem d_Control_receive_0 : decode b_Control_receive 0 = .ok (.aload_n 0, 1) := by decide +kernel
theorem d_Control_receive_1 : decode b_Control_receive 1 = .ok (.getfield 24, 3) := by decide +kernel
theorem d_Control_receive_4 : decode b_Control_receive 4 = .ok (.iload_n 1, 1) := by decide +kernel
theorem d_Control_receive_5 : decode b_Control_receive 5 = .ok (.aload_n 0, 1) := by decide +kernel
theorem d_Control_receive_6 : decode b_Control_receive 6 = .ok (.getfield 24, 3) := by decide +kernel
theorem d_Control_receive_9 : decode b_Control_receive 9 = .ok (.iload_n 3, 1) := by decide +kernel
theorem d_Control_receive_10 : decode b_Control_receive 10 = .ok (.invokevirtual 79, 3) := by decide +kernel
theorem d_Control_receive_13 : decode b_Control_receive 13 = .ok (.invokevirtual 83, 3) := by decide +kernel
theorem d_Control_receive_16 : decode b_Control_receive 16 = .ok (.istore 4, 2) := by decide +kernel
theorem d_Control_receive_18 : decode b_Control_receive 18 = .ok (.aload_n 0, 1) := by decide +kernel
theorem d_Control_receive_19 : decode b_Control_receive 19 = .ok (.getfield 24, 3) := by decide +kernel
theorem d_Control_receive_22 : decode b_Control_receive 22 = .ok (.iload_n 3, 1) := by decide +kernel
theorem d_Control_receive_23 : decode b_Control_receive 23 = .ok (.invokevirtual 86, 3) := by decide +kernel
theorem d_Control_receive_26 : decode b_Control_receive 26 = .ok (.aload_n 0, 1) := by decide +kernel
theorem d_Control_receive_27 : decode b_Control_receive 27 = .ok (.getfield 24, 3) := by decide +kernel
theorem d_Control_receive_30 : decode b_Control_receive 30 = .ok (.iload 4, 2) := by decide +kernel
theorem d_Control_receive_32 : decode b_Control_receive 32 = .ok (.invokevirtual 86, 3) := by decide +kernel
theorem d_Control_receive_35 : decode b_Control_receive 35 = .ok (.if_icmp .le 22, 3) := by decide +kernel
theorem d_Control_receive_38 : decode b_Control_receive 38 = .ok (.aload_n 0, 1) := by decide +kernel
theorem d_Control_receive_39 : decode b_Control_receive 39 = .ok (.getfield 24, 3) := by decide +kernel
theorem d_Control_receive_42 : decode b_Control_receive 42 = .ok (.iload_n 1, 1) := by decide +kernel
theorem d_Control_receive_43 : decode b_Control_receive 43 = .ok (.iload_n 3, 1) := by decide +kernel
theorem d_Control_receive_44 : decode b_Control_receive 44 = .ok (.invokevirtual 53, 3) := by decide +kernel
theorem d_Control_receive_47 : decode b_Control_receive 47 = .ok (.aload_n 0, 1) := by decide +kernel
theorem d_Control_receive_48 : decode b_Control_receive 48 = .ok (.iload_n 2, 1) := by decide +kernel
theorem d_Control_receive_49 : decode b_Control_receive 49 = .ok (.iload_n 1, 1) := by decide +kernel
theorem d_Control_receive_50 : decode b_Control_receive 50 = .ok (.iload_n 3, 1) := by decide +kernel
theorem d_Control_receive_51 : decode b_Control_receive 51 = .ok (.invokevirtual 56, 3) := by decide +kernel
theorem d_Control_receive_54 : decode b_Control_receive 54 = .ok (.goto 31, 3) := by decide +kernel
theorem d_Control_receive_57 : decode b_Control_receive 57 = .ok (.aload_n 0, 1) := by decide +kernel
theorem d_Control_receive_58 : decode b_Control_receive 58 = .ok (.getfield 24, 3) := by decide +kernel
theorem d_Control_receive_61 : decode b_Control_receive 61 = .ok (.iload_n 3, 1) := by decide +kernel
theorem d_Control_receive_62 : decode b_Control_receive 62 = .ok (.invokevirtual 86, 3) := by decide +kernel
theorem d_Control_receive_65 : decode b_Control_receive 65 = .ok (.aload_n 0, 1) := by decide +kernel
theorem d_Control_receive_66 : decode b_Control_receive 66 = .ok (.getfield 24, 3) := by decide +kernel
theorem d_Control_receive_69 : decode b_Control_receive 69 = .ok (.iload 4, 2) := by decide +kernel
theorem d_Control_receive_71 : decode b_Control_receive 71 = .ok (.invokevirtual 86, 3) := by decide +kernel
theorem d_Control_receive_74 : decode b_Control_receive 74 = .ok (.if_icmp .ge 11, 3) := by decide +kernel
theorem d_Control_receive_77 : decode b_Control_receive 77 = .ok (.aload_n 0, 1) := by decide +kernel
theorem d_Control_receive_78 : decode b_Control_receive 78 = .ok (.iload_n 1, 1) := by decide +kernel
theorem d_Control_receive_79 : decode b_Control_receive 79 = .ok (.iload_n 2, 1) := by decide +kernel
theorem d_Control_receive_80 : decode b_Control_receive 80 = .ok (.iload 4, 2) := by decide +kernel
theorem d_Control_receive_82 : decode b_Control_receive 82 = .ok (.invokevirtual 89, 3) := by decide +kernel
theorem d_Control_receive_85 : decode b_Control_receive 85 = .ok (.return_, 1) := by decide +kernel
theorem d_Control_sendToAllBut_0 : decode b_Control_sendToAllBut 0 = .ok (.iconst 0, 1) := by decide +kernel
theorem d_Control_sendToAllBut_1 : decode b_Control_sendToAllBut 1 = .ok (.istore 4, 2) := by decide +kernel
theorem d_Control_sendToAllBut_3 : decode b_Control_sendToAllBut 3 = .ok (.iload 4, 2) := by decide +kernel
theorem d_Control_sendToAllBut_5 : decode b_Control_sendToAllBut 5 = .ok (.bipush 12, 2) := by decide +kernel
theorem d_Control_sendToAllBut_7 : decode b_Control_sendToAllBut 7 = .ok (.if_icmp .ge 36, 3) := by decide +kernel
theorem d_Control_sendToAllBut_10 : decode b_Control_sendToAllBut 10 = .ok (.iload 4, 2) := by decide +kernel
theorem d_Control_sendToAllBut_12 : decode b_Control_sendToAllBut 12 = .ok (.iload_n 1, 1) := by decide +kernel
theorem d_Control_sendToAllBut_13 : decode b_Control_sendToAllBut 13 = .ok (.if_icmp .eq 24, 3) := by decide +kernel
theorem d_Control_sendToAllBut_16 : decode b_Control_sendToAllBut 16 = .ok (.aload_n 0, 1) := by decide +kernel
theorem d_Control_sendToAllBut_17 : decode b_Control_sendToAllBut 17 = .ok (.getfield 20, 3) := by decide +kernel
theorem d_Control_sendToAllBut_20 : decode b_Control_sendToAllBut 20 = .ok (.iload_n 2, 1) := by decide +kernel
theorem d_Control_sendToAllBut_21 : decode b_Control_sendToAllBut 21 = .ok (.iload 4, 2) := by decide +kernel
theorem d_Control_sendToAllBut_23 : decode b_Control_sendToAllBut 23 = .ok (.invokevirtual 92, 3) := by decide +kernel
theorem d_Control_sendToAllBut_26 : decode b_Control_sendToAllBut 26 = .ok (.ifCond .eq 11, 3) := by decide +kernel
theorem d_Control_sendToAllBut_29 : decode b_Control_sendToAllBut 29 = .ok (.aload_n 0, 1) := by decide +kernel
theorem d_Control_sendToAllBut_30 : decode b_Control_sendToAllBut 30 = .ok (.iload_n 2, 1) := by decide +kernel
theorem d_Control_sendToAllBut_31 : decode b_Control_sendToAllBut 31 = .ok (.iload 4, 2) := by decide +kernel
theorem d_Control_sendToAllBut_33 : decode b_Control_sendToAllBut 33 = .ok (.iload_n 3, 1) := by decide +kernel
theorem d_Control_sendToAllBut_34 : decode b_Control_sendToAllBut 34 = .ok (.invokevirtual 89, 3) := by decide +kernel
theorem d_Control_sendToAllBut_37 : decode b_Control_sendToAllBut 37 = .ok (.iinc 4 1, 3) := by decide +kernel
theorem d_Control_sendToAllBut_40 : decode b_Control_sendToAllBut 40 = .ok (.goto (-37), 3) := by decide +kernel
theorem d_Control_sendToAllBut_43 : decode b_Control_sendToAllBut 43 = .ok (.return_, 1) := by decide +kernel
theorem d_Control_sendStore_0 : decode b_Control_sendStore 0 = .ok (.iconst 0, 1) := by decide +kernel
theorem d_Control_sendStore_1 : decode b_Control_sendStore 1 = .ok (.istore_n 3, 1) := by decide +kernel
theorem d_Control_sendStore_2 : decode b_Control_sendStore 2 = .ok (.iload_n 3, 1) := by decide +kernel
theorem d_Control_sendStore_3 : decode b_Control_sendStore 3 = .ok (.bipush 12, 2) := by decide +kernel
theorem d_Control_sendStore_5 : decode b_Control_sendStore 5 = .ok (.if_icmp .ge 41, 3) := by decide +kernel
theorem d_Control_sendStore_8 : decode b_Control_sendStore 8 = .ok (.iload_n 3, 1) := by decide +kernel
theorem d_Control_sendStore_9 : decode b_Control_sendStore 9 = .ok (.iload_n 1, 1) := by decide +kernel
theorem d_Control_sendStore_10 : decode b_Control_sendStore 10 = .ok (.if_icmp .eq 30, 3) := by decide +kernel
theorem d_Control_sendStore_13 : decode b_Control_sendStore 13 = .ok (.aload_n 0, 1) := by decide +kernel
theorem d_Control_sendStore_14 : decode b_Control_sendStore 14 = .ok (.getfield 24, 3) := by decide +kernel
theorem d_Control_sendStore_17 : decode b_Control_sendStore 17 = .ok (.iload_n 1, 1) := by decide +kernel
theorem d_Control_sendStore_18 : decode b_Control_sendStore 18 = .ok (.iload_n 3, 1) := by decide +kernel
theorem d_Control_sendStore_19 : decode b_Control_sendStore 19 = .ok (.invokevirtual 95, 3) := by decide +kernel
theorem d_Control_sendStore_22 : decode b_Control_sendStore 22 = .ok (.ifCond .eq 18, 3) := by decide +kernel
theorem d_Control_sendStore_25 : decode b_Control_sendStore 25 = .ok (.aload_n 0, 1) := by decide +kernel
theorem d_Control_sendStore_26 : decode b_Control_sendStore 26 = .ok (.iload_n 1, 1) := by decide +kernel
theorem d_Control_sendStore_27 : decode b_Control_sendStore 27 = .ok (.iload_n 2, 1) := by decide +kernel
theorem d_Control_sendStore_28 : decode b_Control_sendStore 28 = .ok (.aload_n 0, 1) := by decide +kernel
theorem d_Control_sendStore_29 : decode b_Control_sendStore 29 = .ok (.getfield 24, 3) := by decide +kernel
theorem d_Control_sendStore_32 : decode b_Control_sendStore 32 = .ok (.iload_n 1, 1) := by decide +kernel
theorem d_Control_sendStore_33 : decode b_Control_sendStore 33 = .ok (.iload_n 3, 1) := by decide +kernel
theorem d_Control_sendStore_34 : decode b_Control_sendStore 34 = .ok (.invokevirtual 83, 3) := by decide +kernel
theorem d_Control_sendStore_37 : decode b_Control_sendStore 37 = .ok (.invokevirtual 89, 3) := by decide +kernel
theorem d_Control_sendStore_40 : decode b_Control_sendStore 40 = .ok (.iinc 3 1, 3) := by decide +kernel
theorem d_Control_sendStore_43 : decode b_Control_sendStore 43 = .ok (.goto (-41), 3) := by decide +kernel
theorem d_Control_sendStore_46 : decode b_Control_sendStore 46 = .ok (.return_, 1) := by decide +kernel
theorem d_Control_post_0 : decode b_Control_post 0 = .ok (.aload_n 0, 1) := by decide +kernel
theorem d_Control_post_1 : decode b_Control_post 1 = .ok (.getfield 14, 3) := by decide +kernel
theorem d_Control_post_4 : decode b_Control_post 4 = .ok (.invokevirtual 98, 3) := by decide +kernel
theorem d_Control_post_7 : decode b_Control_post 7 = .ok (.istore 4, 2) := by decide +kernel
theorem d_Control_post_9 : decode b_Control_post 9 = .ok (.aload_n 0, 1) := by decide +kernel
theorem d_Control_post_10 : decode b_Control_post 10 = .ok (.getfield 14, 3) := by decide +kernel
theorem d_Control_post_13 : decode b_Control_post 13 = .ok (.iload 4, 2) := by decide +kernel
theorem d_Control_post_15 : decode b_Control_post 15 = .ok (.iconst 0, 1) := by decide +kernel
theorem d_Control_post_16 : decode b_Control_post 16 = .ok (.iload_n 1, 1) := by decide +kernel
theorem d_Control_post_17 : decode b_Control_post 17 = .ok (.invokevirtual 101, 3) := by decide +kernel
theorem d_Control_post_20 : decode b_Control_post 20 = .ok (.aload_n 0, 1) := by decide +kernel
theorem d_Control_post_21 : decode b_Control_post 21 = .ok (.getfield 14, 3) := by decide +kernel
theorem d_Control_post_24 : decode b_Control_post 24 = .ok (.iload 4, 2) := by decide +kernel
theorem d_Control_post_26 : decode b_Control_post 26 = .ok (.iconst 1, 1) := by decide +kernel
theorem d_Control_post_27 : decode b_Control_post 27 = .ok (.iload_n 2, 1) := by decide +kernel
theorem d_Control_post_28 : decode b_Control_post 28 = .ok (.invokevirtual 101, 3) := by decide +kernel
theorem d_Control_post_31 : decode b_Control_post 31 = .ok (.aload_n 0, 1) := by decide +kernel
theorem d_Control_post_32 : decode b_Control_post 32 = .ok (.getfield 14, 3) := by decide +kernel
theorem d_Control_post_35 : decode b_Control_post 35 = .ok (.iload 4, 2) := by decide +kernel
theorem d_Control_post_37 : decode b_Control_post 37 = .ok (.iconst 2, 1) := by decide +kernel
theorem d_Control_post_38 : decode b_Control_post 38 = .ok (.iload_n 3, 1) := by decide +kernel
theorem d_Control_post_39 : decode b_Control_post 39 = .ok (.invokevirtual 101, 3) := by decide +kernel
theorem d_Control_post_42 : decode b_Control_post 42 = .ok (.return_, 1) := by decide +kernel
